import java.lang.reflect.InvocationTargetException;
import java.lang.reflect.Method;
import java.lang.reflect.Modifier;
import java.util.ArrayList;
import java.util.Comparator;
import java.util.List;
import java.util.Random;

/** The greatest and the wildest inputs: nothing throws, numbers don't overflow, the dearest calls end soon. */
public final class EndsTest {
    private static final Checks C = new Checks();
    private static final String MANY = "(((1a)8)5)5";
    private static final String[] TEXTS = {MANY, "((999z)9)9(999y)9(999x)9999w99v", "(13c41b)9((7z)9)4", "5a", "(80e)9(48f)9",
        "a1;k2;y99;y99;m5;x99", "w0", "0:20", "0:5000;1:20;2:5000", "100:20;2000:33;99999:21"};

    public static void main(String[] args) throws Exception {
        finestCombs();
        greatestAngles();
        greatestLines();
        wildCalls();
        dearestCalls();
        C.end();
    }

    /** The ball of size 1 in a ring of 999 knocks 999 times a turn: millions of marks. */
    private static void finestCombs() {
        KnockFinder x = new KnockFinder();
        Model model = new Model();
        List<int[]> bearings = List.of(new int[] {30, 1, 999}, new int[] {30, 98, 99}, new int[] {29, 97, 998});
        Checks.trace(x, "((999a)9)9(999b)9(999c)9999d99e");
        Checks.filters(x, "k33;y99");
        feedModel(model, "((999a)9)9(999b)9(999c)9999d99e", 0);
        feedModel(model, "k33;y99", 1);
        x.turn(20);
        model.turn(20);
        for (int[] b : bearings) {
            x.bearing(b[0], b[1], b[2]);
            model.bearing(b[0], b[1], b[2]);
            for (int slip = 0; slip <= 490; slip += 245) {
                x.set(0, slip);
                model.set(0, slip);
                for (int what = 0; what <= 5; what++) {
                    C.due("fine comb(2, 0, " + what + ")", x.comb(2, 0, what), model.comb(2, 0, what));
                    C.due("fine comb(1, 1, " + what + ")", x.comb(1, 1, what), model.comb(1, 1, what));
                }
                for (int what = 0; what <= 3; what++) {
                    C.due("fine longest(2, " + what + ")", x.longest(2, what), model.longest(2, what));
                    C.due("fine longest(3, " + what + ")", x.longest(3, what), model.longest(3, what));
                }
                for (int kind = 0; kind < 5; kind++) {
                    C.due("fine apart", x.apart(kind, (kind + 1) % 5), model.apart(kind, (kind + 1) % 5));
                    C.due("fine apart", x.apart(kind, (kind + 2) % 5), model.apart(kind, (kind + 2) % 5));
                }
                C.due("fine side", x.side(3, 3), model.side(3, 3));
                C.due("fine folded", x.folded(3, 2, 8), model.folded(3, 2, 8));
                C.due("fine folded", x.folded(3, 2, 5), model.folded(3, 2, 5));
            }
            for (int l = 1; l <= 9999; l += 357) {
                for (int what = 0; what < 3; what++) {
                    C.due("fine nearest", x.nearest(l, what), model.nearest(l, what));
                }
            }
        }
    }

    private static void feedModel(Model model, String text, int what) {
        for (int from = 0; from < text.length(); from += 20) {
            int[] v = new int[5];
            for (int i = 0; i < 20; i++) {
                v[i / 4] = v[i / 4] << 8 | (from + i < text.length() ? text.charAt(from + i) : ' ');
            }
            model.feed(v[0], v[1], v[2], v[3], v[4]);
        }
        int answer = what == 0 ? model.trace(text.length()) : model.filters(text.length());
        C.isTrue("the model takes " + text, answer >= 0);
    }

    private static void greatestAngles() {
        KnockFinder x = new KnockFinder();
        Checks.speeds(x, "0:20");
        Checks.trace(x, "1a((999a)9)9(999b)9(999c)8999d");
        x.bearing(30, 1, 999);
        // 98901 ticks of 20 a turn: 4945.05 turns, 998000 by 999 knocks in each.
        C.due("marks", x.comb(2, 0, 1), 98901L * 50000 * 998000 / (1000000L * 999) + 1);
        C.isTrue("all hits are on", x.best(4, 0) > 0);
    }

    private static void greatestLines() {
        KnockFinder x = new KnockFinder();
        x.turn(20);
        x.bearing(3, 9, 10);
        Checks.filters(x, "x99");
        for (int i = 0; i < 19; i++) {
            C.due("note", x.note(i), i + 1);
        }
        Checks.trace(x, "(((20z)8)5)5");
        C.due("note", x.note(9999), 20);
        C.due("strengths", x.noteIs(19, 10), 200 * 99);
        // N 20, days 171 and 9999, squares 2109 and 9999 squared, one strength of 19800 on day 9999.
        long above = 20L * 9999 * 19800 - (171L + 9999) * 19800;
        long below = 20L * (2109 + 9999L * 9999) - (171L + 9999) * (171L + 9999);
        long common = java.math.BigInteger.valueOf(above).gcd(java.math.BigInteger.valueOf(below)).longValueExact();
        C.due("rise above", x.line(4, 0), above / common);
        C.due("rise below", x.line(4, 1), below / common);
        C.due("at the end", x.line(4, 2), 990 + (long) Math.floor((double) above / below * (9999 - 508.5)));
        C.due("due", x.due(4, 99999), (long) Math.ceil((99999 - 990) / ((double) above / below) + 508.5));
    }

    private static List<Method> calls() {
        List<Method> all = new ArrayList<>();
        for (Method m : KnockFinder.class.getDeclaredMethods()) {
            if (Modifier.isPublic(m.getModifiers())) {
                all.add(m);
            }
        }
        all.sort(Comparator.comparing(Method::getName));
        return all;
    }

    /** All calls with numbers of all sizes, in many states. */
    private static void wildCalls() throws Exception {
        List<Method> calls = calls();
        int[] edges = {Integer.MIN_VALUE, Integer.MIN_VALUE + 1, -1000, -5, -4, -3, -2, -1, 0, 1, 2, 3, 4, 5, 6, 7, 8, 9, 10, 11,
            19, 20, 21, 98, 99, 100, 199, 200, 201, 239, 240, 490, 491, 500, 999, 1000, 4999, 5000, 5001, 9999, 10000, 99999,
            100000, Integer.MAX_VALUE - 1, Integer.MAX_VALUE};
        for (int run = 0; run < 300; run++) {
            Random random = new Random(run);
            KnockFinder x = new KnockFinder();
            for (int i = 0; i < 512; i++) {
                if (random.nextInt(6) == 0) {
                    Checks.feed(x, TEXTS[random.nextInt(TEXTS.length)]);
                }
                Method m = calls.get(random.nextInt(calls.size()));
                Object[] arguments = new Object[m.getParameterCount()];
                for (int a = 0; a < arguments.length; a++) {
                    int wild = random.nextInt(8) == 0 ? random.nextInt() : edges[random.nextInt(edges.length)];
                    arguments[a] = random.nextInt(3) == 0 ? wild : random.nextInt(random.nextBoolean() ? 6 : 60);
                }
                try {
                    m.invoke(x, arguments);
                } catch (InvocationTargetException e) {
                    C.isTrue(m.getName() + java.util.Arrays.toString(arguments) + " threw " + e.getCause(), false);
                }
            }
        }
    }

    private static void dearestCalls() {
        KnockFinder x = new KnockFinder();
        Checks.trace(x, "(((499a)8)5)5");
        x.bearing(30, 1, 999);
        x.turn(20);
        x.set(1, 50);
        long begin = System.nanoTime();
        for (int i = 0; i < 100; i++) {
            x.bestTurn(2, 20, 219, 0);
            x.both(2, 1, 0);
            x.tried(30, 2, 998, 20, 2);
            x.lags(9500, 9999, 99, 0);
        }
        long seconds = (System.nanoTime() - begin) / 1000000000L;
        C.isTrue("the dearest calls took " + seconds + " s", seconds < 60);
    }
}
