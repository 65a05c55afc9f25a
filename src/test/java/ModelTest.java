import java.util.Random;

/** Random runs of calls, each answer held against the plain model's; the same runs each time. */
public final class ModelTest {
    private static final int RUNS = 400;
    private static final int CALLS = 220;
    private static int wrong = 0;

    private final int run;
    private final Random random;
    private final RandomTexts texts;
    private final KnockFinder x = new KnockFinder();
    private final Model model = new Model();
    private boolean heavy = false;

    private ModelTest(int run) {
        this.run = run;
        random = new Random(run);
        texts = new RandomTexts(random);
    }

    public static void main(String[] args) {
        int runs = args.length > 0 ? Integer.parseInt(args[0]) : RUNS;
        int from = args.length > 1 ? Integer.parseInt(args[1]) : 1;
        for (int run = from; run < from + runs && wrong < 20; run++) {
            ModelTest test = new ModelTest(run);
            for (int i = 0; i < CALLS && wrong < 20; i++) {
                test.step();
            }
        }
        System.out.println(wrong == 0 ? "all answers are as due" : wrong + " answers are not as due");
        System.exit(wrong == 0 ? 0 : 1);
    }

    private void due(String call, long got, long want) {
        if (got != want) {
            wrong++;
            System.out.println("run " + run + ": " + call + " answered " + got + ", due is " + want);
        }
    }

    private int below(int n) {
        return random.nextInt(n);
    }

    /** A number of a few, now and then one that is just outside, or far. */
    private int of(int n) {
        switch (below(30)) {
            case 0: return -1;
            case 1: return n;
            case 2: return random.nextInt();
            default: return below(n);
        }
    }

    private void step() {
        if (below(3) == 0) {
            act();
            heavy = model.isTooMuch();
        } else if (below(3) == 0) {
            plainQuestion();
        } else if (!heavy) {
            combQuestion();
        }
    }

    private int seen() {
        return Math.max(1, model.get(10));
    }

    private void act() {
        switch (below(16)) {
            case 0: bearing(); break;
            case 1: turn(); break;
            case 2: case 3: speeds(); break;
            case 4: case 5: case 6: case 7: trace(); break;
            case 8: case 9: filters(); break;
            case 10: case 11: set(); break;
            case 12: drop(); break;
            case 13: note(); break;
            case 14: undo(); break;
            default: check(); break;
        }
        due("get(13)", x.get(13), model.get(13));
        due("get(12)", x.get(12), model.get(12));
        due("get(10)", x.get(10), model.get(10));
    }

    private void bearing() {
        int balls = below(20) == 0 ? of(31) : 3 + below(10);
        int ball = below(20) == 0 ? of(99) : 5 + below(20);
        int ring = below(20) == 0 ? of(1000) : ball + 5 + below(60);
        due("bearing(" + balls + ", " + ball + ", " + ring + ")", x.bearing(balls, ball, ring),
            model.bearing(balls, ball, ring));
    }

    private void turn() {
        int ticks = below(10) == 0 ? of(5001) : 100 + below(400);
        due("turn(" + ticks + ")", x.turn(ticks), model.turn(ticks));
    }

    private int feed(String text) {
        int before = model.get(12);
        for (int from = 0; from < text.length() || from == 0 && below(2) == 0; from += 20) {
            int[] v = new int[5];
            for (int i = 0; i < 20; i++) {
                int sign = from + i < text.length() ? text.charAt(from + i) : below(256);
                v[i / 4] = v[i / 4] << 8 | sign;
            }
            due("feed", x.feed(v[0], v[1], v[2], v[3], v[4]), model.feed(v[0], v[1], v[2], v[3], v[4]));
        }
        int n = text.length() + (before > 0 && below(2) == 0 ? before : 0);
        return below(40) == 0 ? of(260) : n;
    }

    private void speeds() {
        String text = texts.speeds();
        int n = feed(text);
        due("speeds(" + text + ")", x.speeds(n), model.speeds(n));
    }

    private void trace() {
        int kind = below(5);
        String text = texts.trace(model.ratio(kind, 2) / 100, below(30) == 0 ? 200 : 40);
        int n = feed(text);
        due("trace(" + text + ")", x.trace(n), model.trace(n));
        if (model.get(9) > 60 && below(4) != 0) {
            undo();
        }
    }

    private void filters() {
        String text = texts.filters();
        int n = feed(text);
        due("filters(" + text + ")", x.filters(n), model.filters(n));
    }

    private void set() {
        int[] most = {491, 51, 6, 51, 1001};
        int what = of(5);
        int v = what < 0 || what > 4 ? 1 : below(3) == 0 ? of(most[what]) : below(Math.min(most[what], 200));
        due("set(" + what + ", " + v + ")", x.set(what, v), model.set(what, v));
    }

    private void drop() {
        int k = of(Math.max(1, model.get(9)));
        due("drop(" + k + ")", x.drop(k), model.drop(k));
    }

    private void note() {
        if (heavy) {
            return;
        }
        int notes = model.get(15);
        int last = notes > 0 ? model.noteIs(notes - 1, 0) : 0;
        int day = below(8) == 0 ? of(10000) : last + below(30);
        due("note(" + day + ")", x.note(day), model.note(day));
        if (below(3) == 0) {
            due("note(" + (day + 5) + ")", x.note(day + 5), model.note(day + 5));
        }
    }

    private void undo() {
        int times = 1 + (below(4) == 0 ? below(10) : 0);
        for (int i = 0; i < times; i++) {
            due("undo()", x.undo(), model.undo());
        }
    }

    private void check() {
        if (heavy) {
            return;
        }
        int[] v = new int[5];
        for (int kind = 0; kind < 5; kind++) {
            int best = model.best(kind, 2);
            int sign = best < 0 ? 255 : best / 10;
            sign = below(8) == 0 ? (sign + 1) & 255 : sign;
            v[kind / 4] |= sign << (24 - kind % 4 * 8);
        }
        due("feed", x.feed(v[0], v[1], v[2], v[3], v[4]), model.feed(v[0], v[1], v[2], v[3], v[4]));
        int n = below(2) == 0 ? 5 : of(6);
        due("check(" + n + ")", x.check(n), model.check(n));
    }

    private void plainQuestion() {
        int a = of(5);
        int b = of(5);
        switch (below(12)) {
            case 0: due("get", x.get(a + 11), model.get(a + 11)); break;
            case 1: due("get", x.get(a), model.get(a)); break;
            case 2: due("angle", x.angle(a * 97 + b), model.angle(a * 97 + b)); break;
            case 3: knock(); break;
            case 4: due("ratio", x.ratio(a, b % 3), model.ratio(a, b % 3)); break;
            case 5: due("apart(" + a + ", " + b + ")", x.apart(a, b), model.apart(a, b)); break;
            case 6: lag(); break;
            case 7: lags(); break;
            case 8: nearest(); break;
            case 9: noteIs(); break;
            case 10: line(); break;
            default: dueDay(); break;
        }
    }

    private void knock() {
        int k = of(seen());
        int what = of(3);
        due("knock(" + k + ", " + what + ")", x.knock(k, what), model.knock(k, what));
    }

    private void lag() {
        int l = below(3) == 0 ? of(10000) : of(600);
        int t = of(below(2) == 0 ? 4 : 100);
        due("lag(" + l + ", " + t + ")", x.lag(l, t), model.lag(l, t));
    }

    private void lags() {
        int low = below(3) == 0 ? of(10000) : 1 + below(400);
        int high = low + (below(6) == 0 ? of(501) : below(60));
        int t = of(below(2) == 0 ? 4 : 100);
        int what = of(2);
        due("lags(" + low + ", " + high + ", " + t + ", " + what + ")", x.lags(low, high, t, what),
            model.lags(low, high, t, what));
    }

    private void nearest() {
        int l = below(4) == 0 ? of(10000) : 1 + below(600);
        int what = of(3);
        due("nearest(" + l + ", " + what + ")", x.nearest(l, what), model.nearest(l, what));
    }

    private void noteIs() {
        int i = of(Math.max(1, model.get(15)));
        int what = of(11);
        due("noteIs(" + i + ", " + what + ")", x.noteIs(i, what), model.noteIs(i, what));
    }

    private void line() {
        int kind = of(5);
        int what = of(3);
        due("line(" + kind + ", " + what + ")", x.line(kind, what), model.line(kind, what));
    }

    private void dueDay() {
        int kind = of(5);
        int limit = below(3) == 0 ? of(100000) : of(600);
        due("due(" + kind + ", " + limit + ")", x.due(kind, limit), model.due(kind, limit));
    }

    private void combQuestion() {
        int kind = of(5);
        int other = of(5);
        int k = of(seen());
        switch (below(18)) {
            case 0: comb(kind, k); break;
            case 1: hit(kind, k); break;
            case 2: best(kind); break;
            case 3: side(kind); break;
            case 4: due("shared(" + kind + ", " + other + ")", x.shared(kind, other), model.shared(kind, other)); break;
            case 5: both(kind, other); break;
            case 6: case 7: window(kind); break;
            case 8: chain(kind, k); break;
            case 9: longest(kind); break;
            case 10: case 11: folded(kind, other); break;
            case 12: due("ranked(" + kind + ")", x.ranked(kind), model.ranked(kind)); break;
            case 13: faults(); break;
            case 14: fault(); break;
            case 15: report(); break;
            case 16: tried(); break;
            default: bestTurn(kind); break;
        }
    }

    private void comb(int kind, int k) {
        int what = of(6);
        due("comb(" + kind + ", " + k + ", " + what + ")", x.comb(kind, k, what), model.comb(kind, k, what));
    }

    private void hit(int kind, int k) {
        int m = of(12);
        due("hit(" + kind + ", " + k + ", " + m + ")", x.hit(kind, k, m), model.hit(kind, k, m));
    }

    private void best(int kind) {
        int what = of(7);
        due("best(" + kind + ", " + what + ")", x.best(kind, what), model.best(kind, what));
    }

    private void side(int kind) {
        int by = below(9) - 4;
        due("side(" + kind + ", " + by + ")", x.side(kind, by), model.side(kind, by));
    }

    private void both(int one, int other) {
        int what = of(3);
        if (model.get(10) <= 40) {
            due("both(" + one + ", " + other + ", " + what + ")", x.both(one, other, what), model.both(one, other, what));
        }
    }

    private void window(int kind) {
        int w = 1 + of(8);
        int i = of(Math.max(1, w));
        int what = of(3);
        due("window(" + i + ", " + w + ", " + kind + ", " + what + ")", x.window(i, w, kind, what),
            model.window(i, w, kind, what));
    }

    private void chain(int kind, int k) {
        int what = of(3);
        due("chain(" + kind + ", " + k + ", " + what + ")", x.chain(kind, k, what), model.chain(kind, k, what));
    }

    private void longest(int kind) {
        int what = of(4);
        due("longest(" + kind + ", " + what + ")", x.longest(kind, what), model.longest(kind, what));
    }

    private void folded(int kind, int by) {
        int eighth = of(9);
        due("folded(" + kind + ", " + by + ", " + eighth + ")", x.folded(kind, by, eighth),
            model.folded(kind, by, eighth));
    }

    private void faults() {
        int what = of(2);
        due("faults(" + what + ")", x.faults(what), model.faults(what));
    }

    private void fault() {
        int i = of(4);
        int what = of(6);
        due("fault(" + i + ", " + what + ")", x.fault(i, what), model.fault(i, what));
    }

    private void report() {
        int i = below(3) == 0 ? of(4) : 0;
        int k = of(24);
        due("report(" + i + ", " + k + ")", x.report(i, k), model.report(i, k));
    }

    private void tried() {
        int balls = below(20) == 0 ? of(31) : 3 + below(10);
        int ball = below(20) == 0 ? of(99) : 5 + below(20);
        int ring = below(20) == 0 ? of(1000) : ball + 5 + below(60);
        int turn = below(2) == 0 ? 0 : below(8) == 0 ? of(5001) : 100 + below(400);
        int what = of(3);
        if (!model.isTriedTooMuch(balls, ball, ring, turn)) {
            due("tried(" + balls + ", " + ball + ", " + ring + ", " + turn + ", " + what + ")",
                x.tried(balls, ball, ring, turn, what), model.tried(balls, ball, ring, turn, what));
        }
    }

    private void bestTurn(int kind) {
        int low = below(10) == 0 ? of(5000) : 100 + below(300);
        int high = low + below(8);
        int what = of(2);
        if (!model.isTriedTooMuch(model.get(5), model.get(6), model.get(7), Math.max(20, low))) {
            due("bestTurn(" + kind + ", " + low + ", " + high + ", " + what + ")", x.bestTurn(kind, low, high, what),
                model.bestTurn(kind, low, high, what));
        }
    }
}
