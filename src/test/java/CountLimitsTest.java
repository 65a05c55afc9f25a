/** Limits of the bearing, acts, notes, lags and trials, sentence by sentence: on either side of each. */
public final class CountLimitsTest {
    private static final Checks C = new Checks();
    private static final int SHAFT = 4;
    private static final long NO_LINE = Long.MIN_VALUE;

    public static void main(String[] args) {
        atFirst();
        bearings();
        ratios();
        turns();
        angles();
        options();
        drops();
        notesAreFull();
        noteDays();
        noteOfThen();
        lineOfTwo();
        lineDownwards();
        lineInLowestTerms();
        dueFromTheLastDay();
        dueUpToTheLastDay();
        undoOfEight();
        undoOfEach();
        undoAfterUndo();
        actsThatChangeNothing();
        firstKnock();
        apartFarther();
        apartUpTo400();
        apartOfLikeOnes();
        lagsWithin();
        lagsOfLikeOnes();
        nearestOfLikeOnes();
        nearestIsCut();
        triedWithout();
        triedAside();
        bestTurnOfLikeOnes();
        bestTurnWithout();
        C.end();
    }

    private static void due(String call, long got, long want) {
        C.due(call, got, want);
    }

    private static KnockFinder with(String trace) {
        KnockFinder x = new KnockFinder();
        C.isTrue("trace " + trace, Checks.trace(x, trace) >= 0);
        return x;
    }

    /** "The BEARING as at first, no KNOCKS, no FILTERS": and nothing else either. */
    private static void atFirst() {
        KnockFinder x = new KnockFinder();
        int[] want = {100, 0, 1, 4, 500, 8, 10, 40, 240, 0, 0, 0, 0, 0, 0, 0};
        for (int what = 0; what <= 15; what++) {
            due("get(" + what + ")", x.get(what), want[what]);
        }
        due("get(16)", x.get(16), -1);
        due("get(-1)", x.get(-1), -1);
        due("no knock", x.knock(0, 0), -1);
        due("no note", x.noteIs(0, 0), -1);
        due("nothing to undo", x.undo(), -1);
        KnockFinder y = new KnockFinder();
        y.turn(99);
        due("each object has its own", x.get(8), 240);
    }

    /** "BALLS n (3 to 30; ..), BALL SIZE d (1 to 98; ..), RING SIZE D (2 to 999, above d; ..)" */
    private static void bearings() {
        int[][] right = {{3, 10, 40}, {30, 10, 40}, {8, 1, 40}, {8, 98, 999}, {8, 1, 2}, {8, 10, 11}, {8, 97, 98}, {8, 98, 99},
            {3, 1, 2}, {30, 98, 999}};
        for (int[] r : right) {
            KnockFinder x = new KnockFinder();
            due("bearing " + r[0] + " " + r[1] + " " + r[2], x.bearing(r[0], r[1], r[2]), 0);
            due("balls", x.get(5), r[0]);
            due("ball", x.get(6), r[1]);
            due("ring", x.get(7), r[2]);
            due("an act", x.get(13), 1);
            C.isTrue("can be tried", new KnockFinder().tried(r[0], r[1], r[2], 0, 0) >= 0);
        }
        int[][] wrong = {{2, 10, 40}, {31, 10, 40}, {8, 0, 40}, {8, 99, 999}, {8, 99, 100}, {8, 1, 1}, {8, 10, 10}, {8, 10, 9},
            {8, 98, 98}, {8, 10, 1000}, {8, 0, 1}, {8, -1, 40}, {8, 1, 0}, {-8, 10, 40}};
        for (int[] w : wrong) {
            KnockFinder x = new KnockFinder();
            due("bearing " + w[0] + " " + w[1] + " " + w[2], x.bearing(w[0], w[1], w[2]), -1);
            due("balls", x.get(5), 8);
            due("ball", x.get(6), 10);
            due("ring", x.get(7), 40);
            due("no act", x.get(13), 0);
            due("can't be tried", x.tried(w[0], w[1], w[2], 0, 0), -1);
        }
    }

    /** "in lowest terms"; "2 the PERIOD in hundredths of a tick (cut)": at the ends of bearings and turns. */
    private static void ratios() {
        int[][] all = {
            // balls, ball, ring, turn; then above, below, hundredths of each kind
            {3, 1, 2, 20, 3, 4, 2666, 9, 4, 888, 3, 2, 1333, 1, 4, 8000, 1, 1, 2000},
            {30, 98, 999, 5000, 4505, 333, 36958, 5485, 333, 30355, 988397, 97902, 49525, 901, 1998, 1108768, 1, 1, 500000},
            {30, 98, 99, 5000, 5, 33, 3300000, 985, 33, 16751, 197, 9702, 24624365, 1, 198, 99000000, 1, 1, 500000},
            {30, 1, 999, 20, 4990, 333, 133, 5000, 333, 133, 998000, 999, 2, 499, 999, 4004, 1, 1, 2000},
        };
        for (int[] one : all) {
            KnockFinder x = new KnockFinder();
            x.bearing(one[0], one[1], one[2]);
            x.turn(one[3]);
            for (int kind = 0; kind < 5; kind++) {
                for (int what = 0; what < 3; what++) {
                    due("ratio(" + kind + ", " + what + ") of ring " + one[2], x.ratio(kind, what), one[4 + 3 * kind + what]);
                }
            }
        }
    }

    /** "TURN: so many ticks (20 to 5000; 240)"; "TURN: what it was" */
    private static void turns() {
        KnockFinder x = new KnockFinder();
        due("turn(20)", x.turn(20), 240);
        due("turn(19)", x.turn(19), -1);
        due("it stays", x.get(8), 20);
        due("turn(5000)", x.turn(5000), 20);
        due("turn(5001)", x.turn(5001), -1);
        due("it stays", x.get(8), 5000);
        due("turn(0)", x.turn(0), -1);
        due("turn(-20)", x.turn(-20), -1);
        due("acts", x.get(13), 2);
    }

    /** "ANGLE of a tick (0 to 99999)" */
    private static void angles() {
        KnockFinder x = new KnockFinder();
        due("angle(-1)", x.angle(-1), -1);
        due("angle(0)", x.angle(0), 0);
        due("angle(1)", x.angle(1), 4166);
        due("angle(239)", x.angle(239), 995833);
        due("angle(240)", x.angle(240), 1000000);
        due("angle(99999)", x.angle(99999), 416662500);
        due("angle(100000)", x.angle(100000), -1);
        x.turn(20);
        due("the greatest", x.angle(99999), 4999950000L);
        x.turn(5000);
        due("the least", x.angle(1), 200);
    }

    /** SLIP 0 to 490, DRIFT 0 to 50, MISS 0 to 5, LEAST HITS 2 to 50, LEAST SCORE 0 to 1000 */
    private static void options() {
        int[][] all = {{0, 490, 100}, {0, 50, 0}, {0, 5, 1}, {2, 50, 4}, {0, 1000, 500}};
        for (int what = 0; what < 5; what++) {
            KnockFinder x = new KnockFinder();
            int low = all[what][0];
            int high = all[what][1];
            due("the least", x.set(what, low), all[what][2]);
            due("below", x.set(what, low - 1), -1);
            due("it stays", x.get(what), low);
            due("the most", x.set(what, high), low);
            due("above", x.set(what, high + 1), -1);
            due("it stays", x.get(what), high);
            due("acts", x.get(13), 2);
            for (int other = 0; other < 5; other++) {
                if (other != what) {
                    due("the others stay", x.get(other), all[other][2]);
                }
            }
        }
        KnockFinder y = new KnockFinder();
        due("what -1", y.set(-1, 3), -1);
        due("what 5", y.set(5, 3), -1);
        due("no act", y.get(13), 0);
    }

    /** "KNOCK k of the TRACE (not SEEN alone) goes: how many there are; NONE: no such one" */
    private static void drops() {
        KnockFinder x = with("1a1b1c");
        Checks.filters(x, "w1");
        due("behind the last", x.drop(3), -1);
        due("below 0", x.drop(-1), -1);
        due("the last, that is not seen", x.drop(2), 2);
        due("the first", x.drop(0), 1);
        due("the other one is seen now", x.knock(0, 1), 2);
        due("no longer there", x.drop(1), -1);
        due("the last of all", x.drop(0), 0);
        due("nothing there", x.drop(0), -1);
        due("acts", x.get(13), 5);
        KnockFinder full = with("(((1a)8)5)5");
        due("drop(200)", full.drop(200), -1);
        due("drop(199)", full.drop(199), 199);
        due("drop(199) again", full.drop(199), -1);
        due("the last one now", full.knock(198, 0), 199);
    }

    /** "NOTES, 20 at most"; "-3: there are 20" */
    private static void notesAreFull() {
        KnockFinder x = new KnockFinder();
        for (int i = 1; i <= 20; i++) {
            due("note " + i, x.note(i), i);
        }
        due("a 21st", x.note(21), -3);
        due("20 stay", x.get(15), 20);
        due("the last one stays", x.noteIs(19, 0), 20);
        due("there is no 21st", x.noteIs(20, 0), -1);
        x.undo();
        due("19", x.get(15), 19);
        due("no 20th", x.noteIs(19, 0), -1);
        due("a 20th again", x.note(9999), 20);
    }

    /** "a day (0 to 9999, above that of the NOTE ahead)"; "-4: the day is not above the last one's; NONE: no such day" */
    private static void noteDays() {
        KnockFinder x = new KnockFinder();
        due("day -1", x.note(-1), -1);
        due("day 0", x.note(0), 1);
        due("day 0 again", x.note(0), -4);
        due("day 1", x.note(1), 2);
        due("day 0 behind it", x.note(0), -4);
        due("day 9998", x.note(9998), 3);
        due("day 9997", x.note(9997), -4);
        due("day 9998 again", x.note(9998), -4);
        due("day 10000", x.note(10000), -1);
        due("day 9999", x.note(9999), 4);
        due("day 9999 again", x.note(9999), -4);
        due("notes", x.get(15), 4);
        due("acts", x.get(13), 4);
        KnockFinder y = new KnockFinder();
        due("day 9999 as the first", y.note(9999), 1);
        y.undo();
        due("undone, it binds no more", y.note(3), 1);
    }

    /** "of each KIND HITS and STRENGTHS of HITS of its BEST COMB as it was then (0 without)" */
    private static void noteOfThen() {
        KnockFinder x = with("240a240c");
        // Outer (80) 2 of 4, inner (48) 2 of 6, ball (64) 1 of 4, cage none, shaft 2 of 2.
        x.set(0, 0);
        x.note(5);
        int[] want = {5, 2, 2, 1, 0, 2, 4, 4, 1, 0, 4};
        for (int what = 0; what <= 10; what++) {
            due("noteIs(0, " + what + ")", x.noteIs(0, what), want[what]);
        }
        due("what 11", x.noteIs(0, 11), -1);
        due("what -1", x.noteIs(0, -1), -1);
        x.bearing(9, 9, 99);
        x.turn(500);
        Checks.trace(x, "240z");
        for (int what = 0; what <= 10; what++) {
            due("as it was then", x.noteIs(0, what), want[what]);
        }
    }

    /** Notes of the shaft's strengths: each day with so many knocks a turn apart, each of strength 1. */
    private static KnockFinder noted(int... daysAndKnocks) {
        KnockFinder x = new KnockFinder();
        x.turn(20);
        x.bearing(3, 9, 10);
        for (int i = 0; i < daysAndKnocks.length; i += 2) {
            while (x.get(9) > daysAndKnocks[i + 1]) {
                x.drop(x.get(9) - 1);
            }
            while (x.get(9) < daysAndKnocks[i + 1]) {
                Checks.trace(x, "20a");
            }
            x.note(daysAndKnocks[i]);
        }
        return x;
    }

    /** "THE LINE of a KIND through NOTES (2 at least)" */
    private static void lineOfTwo() {
        KnockFinder x = noted();
        KnockFinder y = noted(5, 4);
        for (int what = 0; what < 3; what++) {
            due("no note", x.line(SHAFT, what), NO_LINE);
            due("one note", y.line(SHAFT, what), NO_LINE);
        }
        due("no note", x.due(SHAFT, 0), -3);
        due("one note", y.due(SHAFT, 0), -3);
        KnockFinder z = noted(5, 4, 6, 6);
        due("two notes, above", z.line(SHAFT, 0), 2);
        due("two notes, below", z.line(SHAFT, 1), 1);
        due("two notes, at the end", z.line(SHAFT, 2), 6);
        due("two notes, due", z.due(SHAFT, 7), 7);
        z.undo();
        due("one note again", z.line(SHAFT, 0), NO_LINE);
        due("one note again", z.due(SHAFT, 0), -3);
        due("wrong comes first", z.due(5, 0), -1);
    }

    /** "2 where it is on the last NOTE's day (downwards)" */
    private static void lineDownwards() {
        // Days 0, 1, 2: 6, 6, 5: by -1 by 2 a day, mean 17 by 3: 17 by 3 less 1 by 2 is 5.16..
        due("cut above 0", noted(0, 6, 1, 6, 2, 5).line(SHAFT, 2), 5);
        // Days 0, 1, 2: 3, 0, 0: by -3 by 2 a day, mean 1: -1 by 2.
        due("-1 by 2 is -1 downwards", noted(0, 3, 1, 0, 2, 0).line(SHAFT, 2), -1);
        // Days 0, 1, 2: 6, 0, 0: by -3 a day, mean 2: just -1.
        due("just -1", noted(0, 6, 1, 0, 2, 0).line(SHAFT, 2), -1);
        // Days 0, 1, 3: 2, 0, 0: (3 * 0 - 4 * 2) by (30 - 16): -4 by 7; mean 2 by 3, 5 by 3 days: -2 by 7.
        due("-2 by 7 is -1 downwards", noted(0, 2, 1, 0, 3, 0).line(SHAFT, 2), -1);
        // Days 0, 1, 2: 2, 4, 6: 6.
        due("just 6", noted(0, 2, 1, 4, 2, 6).line(SHAFT, 2), 6);
        due("0 throughout", noted(0, 0, 1, 0).line(SHAFT, 2), 0);
    }

    /** "1 below the line (above 0, in lowest terms)" */
    private static void lineInLowestTerms() {
        int[][] all = {{0, 2, 9999, 3, 1, 9999}, {0, 2, 2, 4, 1, 1}, {0, 4, 2, 2, -1, 1}, {0, 2, 6, 4, 1, 3}, {0, 4, 6, 0, -2, 3},
            {3, 5, 9, 5, 0, 1}, {0, 0, 1, 0, 0, 1}, {9998, 3, 9999, 2, -1, 1}};
        for (int[] one : all) {
            KnockFinder x = noted(one[0], one[1], one[2], one[3]);
            due("above", x.line(SHAFT, 0), one[4]);
            due("below", x.line(SHAFT, 1), one[5]);
        }
    }

    /** "The first day, from the last NOTE's on, at which THE LINE of a KIND is at a limit (0 to 99999) or above" */
    private static void dueFromTheLastDay() {
        KnockFinder x = noted(5, 4, 8, 10);
        // By 2 a day: 10 on day 8.
        int[][] all = {{0, 8}, {9, 8}, {10, 8}, {11, 9}, {12, 9}, {13, 10}, {99999, 8 + 49995}};
        for (int[] one : all) {
            due("limit " + one[0], x.due(SHAFT, one[0]), one[1]);
        }
        due("limit -1", x.due(SHAFT, -1), -1);
        due("limit 100000", x.due(SHAFT, 100000), -1);
        KnockFinder falls = noted(5, 10, 8, 4);
        due("at it still", falls.due(SHAFT, 4), 8);
        due("above it still", falls.due(SHAFT, 3), 8);
        due("never again", falls.due(SHAFT, 5), -2);
        KnockFinder flat = noted(5, 4, 8, 4);
        due("at it", flat.due(SHAFT, 4), 8);
        due("never", flat.due(SHAFT, 5), -2);
        // The line is at 5.16.. on the last day: not yet at 6, above 5.
        KnockFinder y = noted(0, 6, 1, 6, 2, 5);
        due("above 5", y.due(SHAFT, 5), 2);
        due("not at 6", y.due(SHAFT, 6), -2);
        KnockFinder below = noted(0, 3, 1, 0, 2, 0);
        due("below 0 on the last day", below.due(SHAFT, 0), -2);
        // By a third a day.
        KnockFinder third = noted(0, 2, 3, 3);
        due("in three days", third.due(SHAFT, 4), 6);
        due("in six days", third.due(SHAFT, 5), 9);
    }

    /** "-2: none up to 99999" */
    private static void dueUpToTheLastDay() {
        KnockFinder x = noted(0, 2, 9, 3);
        // 2 and a ninth a day: 11113 on day 99999.
        due("day 99999", x.due(SHAFT, 2 + 11111), 99999);
        due("a day later", x.due(SHAFT, 2 + 11112), -2);
        KnockFinder y = noted(9998, 2, 9999, 3);
        // 3 on day 9999: 90003 on day 99999.
        due("day 99999", y.due(SHAFT, 90003), 99999);
        due("day 100000", y.due(SHAFT, 90004), -2);
        due("day 99998", y.due(SHAFT, 90002), 99998);
        due("on the last day", y.due(SHAFT, 3), 9999);
        due("the day behind", y.due(SHAFT, 4), 10000);
    }

    /** "the latest 8 can be UNDONE, the latest first" */
    private static void undoOfEight() {
        for (int acts = 0; acts <= 20; acts++) {
            KnockFinder x = new KnockFinder();
            for (int i = 1; i <= acts; i++) {
                x.turn(100 + i);
                due("acts that can be undone", x.get(13), Math.min(8, i));
            }
            int can = Math.min(8, acts);
            for (int i = 1; i <= can; i++) {
                due("undo()", x.undo(), can - i);
                due("turn", x.get(8), acts == i ? 240 : 100 + acts - i);
                due("get(13)", x.get(13), can - i);
            }
            due("no more", x.undo(), -1);
            due("turn stays", x.get(8), acts <= 8 ? 240 : 100 + acts - 8);
            due("none", x.get(13), 0);
        }
    }

    /** "ACTS: bearing(), turn(), speeds(), trace(), filters(), set(), drop(), note(), each as a whole" */
    private static void undoOfEach() {
        KnockFinder x = with("(80e)9");
        x.bearing(9, 9, 99);
        due("undo bearing", x.undo(), 1);
        C.isTrue("all three", x.get(5) == 8 && x.get(6) == 10 && x.get(7) == 40);
        Checks.speeds(x, "1:20;2:30");
        due("undo speeds", x.undo(), 1);
        due("spans", x.get(14), 0);
        due("angle", x.angle(240), 1000000);
        Checks.trace(x, "(1a)9");
        due("undo a trace", x.undo(), 1);
        due("knocks", x.get(9), 9);
        due("the last one", x.knock(8, 0), 720);
        Checks.filters(x, "w1;y1");
        due("undo filters", x.undo(), 1);
        due("seen", x.get(10), 9);
        due("as it was", x.knock(0, 0), 80);
        for (int what = 0; what < 5; what++) {
            int before = x.get(what);
            x.set(what, 3);
            due("undo set", x.undo(), 1);
            due("option", x.get(what), before);
        }
        x.drop(4);
        due("undo drop", x.undo(), 1);
        due("it is back in its place", x.knock(4, 0), 400);
        x.note(7);
        due("undo note", x.undo(), 1);
        due("notes", x.get(15), 0);
        x.turn(99);
        due("undo turn", x.undo(), 1);
        due("turn", x.get(8), 240);
        due("best is as it was", x.best(0, 0), 9);
        x.feed(0, 0, 0, 0, 0);
        x.check(1);
        due("feed() and check() are no acts", x.get(13), 1);
        due("undo the first trace", x.undo(), 0);
        due("no knocks", x.get(9), 0);
        due("no best", x.best(0, 0), -2);
    }

    private static void undoAfterUndo() {
        KnockFinder x = new KnockFinder();
        for (int i = 1; i <= 8; i++) {
            x.turn(100 + i);
        }
        x.undo();
        x.undo();
        x.turn(200);
        due("seven", x.get(13), 7);
        due("back", x.undo(), 6);
        due("what was undone doesn't come again", x.get(8), 106);
        due("back", x.undo(), 5);
        due("the one ahead", x.get(8), 105);
    }

    /** "if it isn't refused (also one that changes nothing)" */
    private static void actsThatChangeNothing() {
        KnockFinder x = new KnockFinder();
        due("bearing", x.bearing(8, 10, 40), 0);
        due("turn", x.turn(240), 240);
        due("speeds", x.speeds(0), 0);
        due("filters", x.filters(0), 0);
        due("set", x.set(0, 100), 100);
        due("five acts", x.get(13), 5);
        x.bearing(2, 10, 40);
        x.turn(19);
        x.speeds(-1);
        x.filters(61);
        x.trace(0);
        x.set(0, 491);
        x.drop(0);
        x.note(-1);
        Checks.trace(x, "0a");
        Checks.filters(x, "k0");
        Checks.speeds(x, "1:1");
        due("refused ones are none", x.get(13), 5);
        for (int i = 4; i >= 0; i--) {
            due("undo", x.undo(), i);
        }
    }

    /** "2 ticks from the one before (the first: -2)" */
    private static void firstKnock() {
        KnockFinder x = with("5a6b");
        due("the first", x.knock(0, 2), -2);
        due("the second", x.knock(1, 2), 6);
        due("no third", x.knock(2, 2), -1);
        Checks.filters(x, "r1");
        due("the first that is seen", x.knock(0, 2), -2);
        x.filters(0);
        x.drop(0);
        due("the first that is left", x.knock(0, 2), -2);
        KnockFinder full = with("(((1a)8)5)5");
        due("the 200th", full.knock(199, 0), 200);
        due("no 201st", full.knock(200, 0), -1);
    }

    /** "is farther from each MARK of the other one .. than both SLIPS .. together" */
    private static void apartFarther() {
        KnockFinder x = new KnockFinder();
        // Outer 3, inner 5: mark 1 of outer is 1 by 15 off; both slips are 8 by 15 times slip.
        int[][] all = {{0, 1}, {124, 1}, {125, -2}, {126, -2}, {490, -2}};
        for (int[] one : all) {
            x.set(0, one[0]);
            due("slip " + one[0], x.apart(0, 1), one[1]);
            due("slip " + one[0] + ", turned", x.apart(1, 0), one[1]);
        }
        x.set(0, 0);
        due("all marks of the shaft are the outer ring's", x.apart(SHAFT, 0), -2);
        x.set(0, 124);
        x.set(1, 50);
        due("without drift", x.apart(0, 1), 1);
        // Ball 15 by 4: marks of the shaft at 15 by 4: 1 by 4, 1 by 2 of its period off; slips 1 and 4 by 15 times slip.
        x.set(0, 52);
        due("1 by 15 by 19 by 15: up to 52", x.apart(2, SHAFT), 1);
        x.set(0, 53);
        due("the second mark is farther off", x.apart(2, SHAFT), 2);
        x.set(0, 105);
        due("2 by 19: up to 105", x.apart(2, SHAFT), 2);
        x.set(0, 106);
        due("none", x.apart(2, SHAFT), -2);
    }

    /** "from MARK m (1 to 400) on"; "-2: none of 1 to 400" */
    private static void apartUpTo400() {
        KnockFinder x = new KnockFinder();
        x.set(0, 36);
        x.bearing(3, 10, 101);
        due("mark 400", x.apart(2, SHAFT), 400);
        due("mark 400, turned", x.apart(SHAFT, 2), 400);
        x.set(0, 19);
        x.bearing(3, 26, 135);
        due("mark 401 would be", x.apart(2, SHAFT), -2);
    }

    /** "(of like ones of the lower KIND)": marks of like periods are never apart. */
    private static void apartOfLikeOnes() {
        KnockFinder x = new KnockFinder();
        x.bearing(4, 10, 20);
        x.set(0, 0);
        due("outer and shaft are both 1", x.apart(0, SHAFT), -2);
        due("turned", x.apart(SHAFT, 0), -2);
        for (int kind = 0; kind < 5; kind++) {
            due("one kind alone", x.apart(kind, kind), -1);
        }
    }

    /** "pairs of KNOCKS (any two) whose ticks differ by l, t more or less at most" */
    private static void lagsWithin() {
        KnockFinder x = with("100a50b7c");
        // Differences 50, 7, 57.
        int[][] all = {{50, 0, 1}, {49, 0, 0}, {51, 0, 0}, {49, 1, 1}, {51, 1, 1}, {48, 1, 0}, {52, 1, 0}, {57, 0, 1}, {7, 0, 1},
            {53, 3, 1}, {54, 3, 1}, {53, 4, 2}, {54, 4, 2}, {54, 2, 0}, {1, 6, 1}, {1, 5, 0}, {1, 49, 2}, {1, 56, 3}, {1, 55, 2}, {1, 99, 3},
            {9999, 99, 0}, {156, 99, 1}, {157, 99, 0}, {149, 99, 2}, {150, 99, 1}};
        for (int[] one : all) {
            due("lag(" + one[0] + ", " + one[1] + ")", x.lag(one[0], one[1]), one[2]);
            due("as lags", x.lags(one[0], one[0], one[1], 1), one[2]);
        }
        due("no knocks", new KnockFinder().lag(1, 99), 0);
        due("one knock", with("5a").lag(1, 99), 0);
        KnockFinder far = with("1a(999b)9999b9c108c");
        Checks.filters(far, "a3;a3");
        due("108 apart", far.lag(108, 0), 1);
        Checks.filters(far, "k11");
        // Ticks 1 and 9991 + 9.
        due("9999 apart", far.lag(9999, 0), 1);
        due("9998 within 1", far.lag(9998, 1), 1);
        due("9998", far.lag(9998, 0), 0);
        due("all 200", with("(((1a)8)5)5").lag(1, 0), 199);
        due("all pairs within 100", with("(((1a)8)5)5").lag(1, 99), 199 * 200 / 2 - 99 * 100 / 2);
    }

    /** "(1 to 9999, 500 at most) within t the one with the most pairs (of like ones the least)" */
    private static void lagsOfLikeOnes() {
        KnockFinder x = with("100a50b7c");
        due("the least of those with none", x.lags(200, 300, 0, 0), 200);
        due("none", x.lags(200, 300, 0, 1), 0);
        due("the least of like ones", x.lags(1, 500, 0, 0), 7);
        due("the least of like ones", x.lags(8, 507, 0, 0), 50);
        due("the least of like ones", x.lags(51, 550, 0, 0), 57);
        due("the most", x.lags(1, 500, 4, 0), 53);
        due("the most", x.lags(1, 500, 4, 1), 2);
        due("the last one is looked at", x.lags(1, 7, 0, 1), 1);
        due("the last one is looked at", x.lags(1, 6, 0, 1), 0);
        due("the second one is looked at", x.lags(6, 10, 0, 0), 7);
        due("the first one is looked at", x.lags(7, 10, 0, 0), 7);
        due("one alone", x.lags(57, 57, 0, 0), 57);
        due("500 of them", x.lags(9500, 9999, 0, 0), 9500);
        due("501 of them", x.lags(9499, 9999, 0, 0), -1);
        due("500 of them", x.lags(1, 500, 99, 1), 3);
        due("501 of them", x.lags(1, 501, 99, 1), -1);
        due("low above high", x.lags(8, 7, 0, 0), -1);
    }

    /** "the one nearest to l (in ticks, by TURN; of like ones the lower KIND, then the lower multiple)"; "multiples 1 to 4" */
    private static void nearestOfLikeOnes() {
        KnockFinder x = new KnockFinder();
        // Periods 80, 48, 64, 640, 240.
        int[][] all = {{72, 0, 1, 800}, {56, 1, 1, 800}, {240, 0, 3, 0}, {480, 4, 2, 0}, {192, 1, 4, 0}, {256, 2, 4, 0}, {320, 0, 4, 0},
            {960, 4, 4, 0}, {1200, 3, 2, 8000}, {1280, 3, 2, 0}, {2560, 3, 4, 0}, {1600, 3, 2, 32000}, {2240, 3, 3, 32000},
            {1599, 3, 2, 31900}, {1601, 3, 3, 31900}, {1, 1, 1, 4700}, {9999, 3, 4, 743900}, {280, 2, 4, 2400}, {281, 2, 4, 2500}};
        for (int[] one : all) {
            for (int what = 0; what < 3; what++) {
                due("nearest(" + one[0] + ", " + what + ")", x.nearest(one[0], what), one[1 + what]);
            }
        }
        due("l 0", x.nearest(0, 0), -1);
        due("l 10000", x.nearest(10000, 0), -1);
        KnockFinder y = new KnockFinder();
        y.bearing(4, 10, 20);
        // Outer and shaft are both 240.
        due("the lower kind", y.nearest(240, 0), 0);
        due("the lower kind", y.nearest(960, 0), 0);
        due("its multiple, though the cage's is 1", y.nearest(960, 1), 4);
    }

    /** "2 how far, in hundredths of a tick (cut)" */
    private static void nearestIsCut() {
        KnockFinder x = new KnockFinder();
        x.turn(100);
        // Outer 33.33.., ball 26.66..
        due("0.66..", x.nearest(34, 2), 66);
        due("0.33..", x.nearest(33, 2), 33);
        due("1 by 3 off at multiple 2", x.nearest(67, 2), 33);
        due("which", x.nearest(67, 1), 2);
        due("1.33.. from outer, 5.33.. from ball", x.nearest(32, 0), 0);
        due("1.33..", x.nearest(32, 2), 133);
        due("4.33.. from outer, 2.33.. from ball", x.nearest(29, 0), 2);
        due("2.33..", x.nearest(29, 2), 233);
        // Just between 26.66.. and 33.33..: of like ones outer.
        due("like far", x.nearest(30, 0), 0);
        due("3.33..", x.nearest(30, 2), 333);
    }

    /** "what 0 the KIND that is RANKED first, 1 its HITS (0: it has none), 2 FAULTS FOUND" */
    private static void triedWithout() {
        KnockFinder x = new KnockFinder();
        due("no knocks: the lowest kind", x.tried(8, 10, 40, 0, 0), 0);
        due("no knocks: no hits", x.tried(8, 10, 40, 0, 1), 0);
        due("no knocks: no faults", x.tried(8, 10, 40, 0, 2), 0);
        KnockFinder y = with("80e");
        due("one knock: no hits", y.tried(8, 10, 40, 20, 1), 0);
        KnockFinder z = with("(80e)4");
        due("4 hits", z.tried(8, 10, 40, 240, 1), 4);
        due("a fault", z.tried(8, 10, 40, 240, 2), 1);
        z.drop(3);
        due("3 hits", z.tried(8, 10, 40, 240, 1), 3);
        due("no fault", z.tried(8, 10, 40, 240, 2), 0);
    }

    /** "With another BEARING (as bearing()) or TURN (0: as it is), tried aside" */
    private static void triedAside() {
        KnockFinder x = with("(80e)9");
        due("turn 0 is as it is", x.tried(8, 10, 40, 0, 1), 9);
        due("turn 20", x.tried(8, 10, 40, 20, 0) >= 0 ? 1 : 0, 1);
        due("turn 5000: too long for any comb", x.tried(8, 10, 40, 5000, 1), 0);
        due("turn 19", x.tried(8, 10, 40, 19, 1), -1);
        due("turn 1", x.tried(8, 10, 40, 1, 1), -1);
        due("turn -1", x.tried(8, 10, 40, -1, 1), -1);
        due("turn 5001", x.tried(8, 10, 40, 5001, 1), -1);
        due("what 3", x.tried(8, 10, 40, 0, 3), -1);
        due("what -1", x.tried(8, 10, 40, 0, -1), -1);
        due("the bearing stays", x.get(5), 8);
        due("the turn stays", x.get(8), 240);
        due("no act", x.get(13), 1);
        due("the faults stay", x.faults(0), 1);
        x.set(0, 20);
        // Outer 3 by 20, inner 57 by 20 (84.2), ball 19 by 90, cage 1 by 20: 3 of 3 of the shaft are the most.
        due("another bearing", x.tried(3, 9, 10, 0, 0), SHAFT);
        due("its hits", x.tried(3, 9, 10, 0, 1), 3);
        x.set(3, 10);
        due("by the options there are", x.tried(8, 10, 40, 0, 2), 0);
        x.set(3, 9);
        due("by the options there are", x.tried(8, 10, 40, 0, 2), 1);
        Checks.speeds(x, "0:160");
        // Half a turn from knock to knock: the shaft has 5 of 5.
        due("by the speeds there are", x.tried(8, 10, 40, 0, 0), SHAFT);
        due("its hits", x.tried(8, 10, 40, 0, 1), 5);
        due("by the speeds there are, whatever the turn", x.tried(8, 10, 40, 20, 1), 5);
        Checks.filters(x, "w3");
        due("by what is seen", x.tried(8, 10, 40, 0, 1), 2);
    }

    /** "has the most HITS, of like ones the higher SCORE, then the least TURN" */
    private static void bestTurnOfLikeOnes() {
        KnockFinder x = with("100a200b");
        x.set(0, 0);
        // By 100: 2 of 3; by 200: 2 of 2.
        due("the higher score", x.bestTurn(SHAFT, 100, 200, 0), 200);
        due("its hits", x.bestTurn(SHAFT, 100, 200, 1), 2);
        due("without that one", x.bestTurn(SHAFT, 100, 199, 0), 100);
        KnockFinder y = with("100a100b200c");
        y.set(0, 0);
        // By 100: 3 of 4; by 200 and 300: 2 of 2.
        due("the most hits", y.bestTurn(SHAFT, 100, 299, 0), 100);
        due("its hits", y.bestTurn(SHAFT, 100, 299, 1), 3);
        due("the least turn", y.bestTurn(SHAFT, 101, 300, 0), 200);
        due("the last turn", y.bestTurn(SHAFT, 201, 300, 0), 300);
        due("its hits", y.bestTurn(SHAFT, 201, 300, 1), 2);
        KnockFinder z = with("500a1b");
        Checks.speeds(z, "0:20");
        due("by speeds alone all are alike", z.bestTurn(2, 20, 219, 0), -2);
        Checks.trace(z, "500a");
        due("the least", z.bestTurn(SHAFT, 20, 219, 0), 20);
        due("the least", z.bestTurn(SHAFT, 4801, 5000, 0), 4801);
    }

    /** "(20 to 5000, 200 at most)"; "(-2 both: there is no COMB by any)" */
    private static void bestTurnWithout() {
        KnockFinder x = with("100a200b");
        due("a comb by the least turn alone", x.bestTurn(SHAFT, 200, 399, 0), 200);
        due("no comb by any", x.bestTurn(SHAFT, 201, 400, 0), -2);
        due("no comb by any", x.bestTurn(SHAFT, 201, 400, 1), -2);
        due("201 turns", x.bestTurn(SHAFT, 200, 400, 0), -1);
        due("turn 20", x.bestTurn(SHAFT, 20, 20, 0), 20);
        due("turn 19", x.bestTurn(SHAFT, 19, 20, 0), -1);
        due("turn 5000", x.bestTurn(SHAFT, 5000, 5000, 0), -2);
        due("turn 5001", x.bestTurn(SHAFT, 5000, 5001, 0), -1);
        due("low above high", x.bestTurn(SHAFT, 21, 20, 0), -1);
        due("no knocks", new KnockFinder().bestTurn(SHAFT, 20, 219, 1), -2);
    }
}
