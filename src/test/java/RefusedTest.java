import java.util.ArrayList;
import java.util.List;

/**
 * "A call that is refused (NONE, -2 to -9, false) changes nothing but the tape, where it is told. Of several reasons
 * NONE comes first." Each refused call is made on one of two like finders; behind it both must answer alike, also when
 * all acts are undone. The same is held for questions that are answered, as they are no acts.
 */
public final class RefusedTest {
    private static final Checks C = new Checks();
    private static final int MIN = Integer.MIN_VALUE;
    private static final int MAX = Integer.MAX_VALUE;
    private static final long NO_LINE = Long.MIN_VALUE;

    /** Makes a finder; each call of it makes one like the others. */
    private interface Maker {
        KnockFinder make();
    }

    public static void main(String[] args) {
        numbersThatAreRefused();
        numbersThatAreTaken();
        linesThatAreRefused();
        checksThatAreRefused();
        likeKindsAreRefused();
        questionsChangeNothing();
        emptyFinder();
        noneComesFirst();
        actsWithAnswersOfTheirOwn();
        faultsEmptyTheTape();
        C.end();
    }

    private static boolean isAct(Call call) {
        return List.of("bearing", "turn", "speeds", "trace", "filters", "set", "drop", "note").contains(call.name);
    }

    /** A refused call: its answer, and that nothing changed, the tape neither. */
    private static void refused(Maker maker, Call call, long want) {
        KnockFinder x = maker.make();
        C.due("refused " + call, call.on(x), want);
        alike("behind " + call, x, maker.make());
        undone("behind " + call, maker, call);
    }

    private static void alike(String what, KnockFinder x, KnockFinder untouched) {
        List<Long> got = Rich.picture(x);
        List<Long> want = Rich.picture(untouched);
        C.isTrue(what + " " + got + " is as it was " + want, got.equals(want));
        // What lies on the tape shows when it is read.
        C.due(what + " the tape reads", x.trace(9), untouched.trace(9));
        got = Rich.shortPicture(x);
        want = Rich.shortPicture(untouched);
        C.isTrue(what + " a trace " + got + " is as it was " + want, got.equals(want));
    }

    private static void undone(String what, Maker maker, Call call) {
        KnockFinder x = maker.make();
        KnockFinder untouched = maker.make();
        call.on(x);
        int left = untouched.get(13);
        for (int i = 0; i <= left; i++) {
            C.due(what + " undo()", x.undo(), untouched.undo());
            List<Long> got = Rich.shortPicture(x);
            List<Long> want = Rich.shortPicture(untouched);
            C.isTrue(what + " undone " + got + " is as it was " + want, got.equals(want));
        }
    }

    private static void numbersThatAreRefused() {
        for (Rich.Range range : Rich.ranges()) {
            for (Call call : range.refused()) {
                refused(Rich::finder, call, -1);
            }
        }
    }

    private static void numbersThatAreTaken() {
        for (Rich.Range range : Rich.ranges()) {
            for (Call call : range.taken()) {
                C.isTrue(call + " is taken", call.on(Rich.finder()) != -1);
            }
        }
    }

    private static void linesThatAreRefused() {
        int[][] wrong = {{-1, 0}, {5, 0}, {MIN, 0}, {MAX, 0}, {0, -1}, {0, 3}, {4, MIN}, {4, MAX}};
        for (int[] w : wrong) {
            refused(Rich::finder, new Call("line", w[0], w[1]), NO_LINE);
        }
        for (int kind = 0; kind < 5; kind++) {
            for (int what = 0; what < 3; what++) {
                C.isTrue("line is taken", Rich.finder().line(kind, what) != NO_LINE);
            }
        }
    }

    private static void checksThatAreRefused() {
        for (int n : new int[] {-1, 6, MIN, MAX}) {
            refused(Rich::finder, new Call("check", n), -2);
        }
        KnockFinder x = Rich.finder();
        C.due("check(5) is taken", x.check(5), 0);
        C.due("and empties the tape", x.get(12), 0);
        C.due("check(1) of nothing", x.check(1), -2);
        C.due("check(0) of nothing is right", x.check(0), -1);
        KnockFinder y = Rich.finder();
        C.due("check(0) is right", y.check(0), -1);
        C.due("and empties the tape", y.get(12), 0);
        C.due("and is no act", y.get(13), 8);
    }

    private static void likeKindsAreRefused() {
        for (int kind = 0; kind < 5; kind++) {
            refused(Rich::finder, new Call("both", kind, kind, 0), -1);
            refused(Rich::finder, new Call("apart", kind, kind), -1);
        }
        C.isTrue("shared() takes like kinds", Rich.finder().shared(2, 2) >= 0);
        C.isTrue("folded() takes like kinds", Rich.finder().folded(2, 2, 0) >= 0);
    }

    /** All questions with the numbers they take: some look at other bearings, windows or what is left. */
    private static void questionsChangeNothing() {
        for (Rich.Range range : Rich.ranges()) {
            for (Call call : range.taken()) {
                if (!isAct(call)) {
                    KnockFinder x = Rich.finder();
                    long first = call.on(x);
                    alike("behind " + call, x, Rich.finder());
                    undone("behind " + call, Rich::finder, call);
                    KnockFinder y = Rich.finder();
                    call.on(y);
                    C.due("again " + call, call.on(y), first);
                }
            }
        }
    }

    /** A finder without knocks and notes, with 20 bytes on its tape. */
    private static KnockFinder bare() {
        KnockFinder x = new KnockFinder();
        x.turn(300);
        Checks.feed(x, "80e80f40z");
        return x;
    }

    /** What each call answers if there is nothing: no knock, no note. */
    private static void emptyFinder() {
        List<Call> minusTwo = new ArrayList<>();
        for (int kind = 0; kind < 5; kind++) {
            minusTwo.add(new Call("best", kind, 0));
            minusTwo.add(new Call("best", kind, 6));
            minusTwo.add(new Call("side", kind, 3));
            minusTwo.add(new Call("shared", kind, 0));
            minusTwo.add(new Call("both", kind, (kind + 1) % 5, 0));
            minusTwo.add(new Call("window", 0, 1, kind, 0));
            minusTwo.add(new Call("window", 0, 1, kind, 1));
            minusTwo.add(new Call("window", 0, 1, kind, 2));
            minusTwo.add(new Call("longest", kind, 0));
            minusTwo.add(new Call("longest", kind, 3));
            minusTwo.add(new Call("folded", kind, 0, 0));
            minusTwo.add(new Call("folded", kind, 0, 8));
            minusTwo.add(new Call("bestTurn", kind, 20, 219, 0));
            minusTwo.add(new Call("bestTurn", kind, 20, 219, 1));
            refused(RefusedTest::bare, new Call("due", kind, 0), -3);
            refused(RefusedTest::bare, new Call("line", kind, 0), NO_LINE);
            refused(RefusedTest::bare, new Call("line", kind, 2), NO_LINE);
            refused(RefusedTest::bare, new Call("comb", kind, 0, 0), -1);
            refused(RefusedTest::bare, new Call("hit", kind, 0, 0), -1);
            refused(RefusedTest::bare, new Call("chain", kind, 0, 0), -1);
        }
        minusTwo.add(new Call("fault", 0, 0));
        minusTwo.add(new Call("fault", MAX, 5));
        minusTwo.add(new Call("report", 0, -1));
        minusTwo.add(new Call("report", 0, 0));
        for (Call call : minusTwo) {
            refused(RefusedTest::bare, call, -2);
        }
        refused(RefusedTest::bare, new Call("knock", 0, 0), -1);
        refused(RefusedTest::bare, new Call("drop", 0), -1);
        refused(RefusedTest::bare, new Call("noteIs", 0, 0), -1);
        refused(KnockFinder::new, new Call("undo"), -1);
    }

    /** Wrong numbers where -2, -3 or -4 would be due as well. */
    private static void noneComesFirst() {
        List<Call> all = List.of(new Call("best", 5, 0), new Call("best", 0, 7), new Call("side", 5, 0),
            new Call("side", 3, -4), new Call("side", -1, -3), new Call("shared", 0, 5), new Call("shared", 5, 0),
            new Call("both", 0, 1, 3), new Call("both", 0, 0, 0), new Call("window", 1, 1, 0, 2),
            new Call("window", 0, 1, 5, 2), new Call("window", 0, 1, 0, 3), new Call("window", 0, 9, 0, 0),
            new Call("longest", 5, 0), new Call("longest", 0, 4), new Call("folded", 5, 0, 0), new Call("folded", 0, 5, 0),
            new Call("folded", 0, 0, 9), new Call("fault", 0, 6), new Call("fault", 7, -1), new Call("report", 0, -2),
            new Call("report", -1, 0), new Call("bestTurn", 5, 20, 20, 0), new Call("bestTurn", 0, 20, 220, 0),
            new Call("bestTurn", 0, 20, 20, 2), new Call("due", 5, 0), new Call("due", 0, -1), new Call("due", 0, 100000),
            new Call("hit", 0, 0, 9), new Call("speeds", 21), new Call("trace", 21), new Call("filters", 21),
            new Call("trace", 0));
        for (Call call : all) {
            refused(RefusedTest::bare, call, -1);
        }
        refused(RefusedTest::withTwentyNotes, new Call("note", -1), -1);
        refused(RefusedTest::withTwentyNotes, new Call("note", 10000), -1);
        refused(Rich::finder, new Call("hit", 0, 9, MAX), -1);
        refused(Rich::finder, new Call("hit", 0, 0, -1), -1);
        refused(Rich::finder, new Call("report", 9, -2), -1);
        refused(Rich::finder, new Call("fault", 9, 6), -1);
    }

    private static KnockFinder withTwentyNotes() {
        KnockFinder x = new KnockFinder();
        Checks.trace(x, "(80e)9");
        for (int i = 1; i <= 20; i++) {
            x.note(i * 10);
        }
        Checks.feed(x, "80e80f40z");
        return x;
    }

    private static void actsWithAnswersOfTheirOwn() {
        refused(RefusedTest::withTwentyNotes, new Call("note", 201), -3);
        refused(RefusedTest::withTwentyNotes, new Call("note", 9999), -3);
        refused(Rich::finder, new Call("note", 30), -4);
        refused(Rich::finder, new Call("note", 0), -4);
        refused(Rich::finder, new Call("feed", 0, 0, 0, 0, 0), -1);
        refused(Rich::finder, new Call("hit", 4, 0, 3), -3);
        refused(Rich::finder, new Call("report", 1, 0), -2);
        refused(Rich::finder, new Call("report", 0, 99), -4);
        refused(Rich::finder, new Call("fault", 1, 0), -2);
        refused(Rich::finder, new Call("side", 0, -3), -2);
        refused(RefusedTest::withTwentyNotes, new Call("due", 0, 46), -2);
        C.due("a note that is one day later is taken", Rich.finder().note(31), 4);
    }

    /** Faults, -3 and -4 of texts: the tape is empty then, all else is as it was. */
    private static void faultsEmptyTheTape() {
        Object[][] all = {
            {"speeds", "5:19", -3002}, {"speeds", "5", -1001}, {"speeds", "5:20000", -2006}, {"speeds", "5:20;5:20", -3005},
            {"speeds", "1:20;2:20;3:20;4:20;5:20;6:20;7:20;8:20;9:20;10:20;11:20", -4051},
            {"trace", "80e80", -1005}, {"trace", "80e1000a", -2006}, {"trace", "80e0a", -3003}, {"trace", "80e((((", -5006},
            {"trace", "(((80e)9)9)9", -3}, {"trace", "(((80e)8)5)5", -3}, {"trace", "((999e)9)9(999e)9(999e)9(999e)2", -4},
            {"filters", "a1;b", -1004}, {"filters", "a1;b100", -2006}, {"filters", "a1;k0", -3004},
            {"filters", "a1;a1;a1;a1;a1;a1;a1;a1;a1;a1;a1", -4030},
        };
        for (Object[] one : all) {
            String text = (String) one[1];
            Call call = new Call((String) one[0], text.length());
            KnockFinder x = readyFor(text);
            C.due(call + " of " + text, call.on(x), (int) one[2]);
            C.due("the tape is empty behind " + text, x.get(12), 0);
            C.due("and takes twelve feeds again", fullTape(x), 240);
            alike("behind " + text, x, Rich.finder());
            KnockFinder y = readyFor(text);
            KnockFinder untouched = Rich.finder();
            untouched.check(0);
            call.on(y);
            for (int i = 0; i <= 8; i++) {
                C.due("undo() behind " + text, y.undo(), untouched.undo());
                C.isTrue("undone behind " + text, Rich.shortPicture(y).equals(Rich.shortPicture(untouched)));
            }
        }
    }

    private static KnockFinder readyFor(String text) {
        KnockFinder x = Rich.finder();
        x.check(0);
        Checks.feed(x, text);
        return x;
    }

    private static int fullTape(KnockFinder x) {
        int bytes = 0;
        for (int i = 0; i < 12; i++) {
            Checks.feed(x, "80e80f40z");
            bytes = x.get(12);
        }
        return bytes;
    }
}
