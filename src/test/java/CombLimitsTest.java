/**
 * Limits of combs, chains and what is told by them, sentence by sentence. Most finders here have a turn of 1000 ticks:
 * a tick is then a thousandth of the shaft's period.
 */
public final class CombLimitsTest {
    private static final Checks C = new Checks();
    private static final int SHAFT = 4;

    public static void main(String[] args) {
        marksUpToTheLast();
        nearestOfAMark();
        noFartherThanSlip();
        slipAndDrift();
        atMost490();
        scoreIsCut();
        mostOffIsCut();
        hitsOfMarks();
        bestOfTwoMarks();
        bestOfLikeOnes();
        bestScoresAreCut();
        chainOfNext();
        chainOfMisses();
        chainOfSlips();
        chainOfKinds();
        longestOfLikeOnes();
        sidesAboveNone();
        eighths();
        depth();
        rankedOfLikeOnes();
        leastHits();
        leastScore();
        allKindsAreFound();
        reportBytes();
        sharedWithout();
        bothOfLikeOnes();
        windows();
        C.end();
    }

    private static void due(String call, long got, long want) {
        C.due(call, got, want);
    }

    /** A finder whose knocks are at these ticks, of strengths 1, 2, ..; gaps that are too wide get knocks that are dropped. */
    private static KnockFinder at(int turn, int slip, int... ticks) {
        KnockFinder x = new KnockFinder();
        x.turn(turn);
        x.set(0, slip);
        int last = 0;
        for (int i = 0; i < ticks.length; i++) {
            int between = 0;
            StringBuilder text = new StringBuilder();
            while (ticks[i] - last > 999) {
                text.append("999a");
                last += 999;
                between++;
            }
            text.append(ticks[i] - last).append((char) ('a' + i));
            Checks.trace(x, text.toString());
            for (int d = 0; d < between; d++) {
                x.drop(i);
            }
            last = ticks[i];
        }
        due("knocks", x.get(9), ticks.length);
        return x;
    }

    /** "as far as they are not behind the last KNOCK's ANGLE" */
    private static void marksUpToTheLast() {
        due("just ahead of a mark", at(1000, 0, 500, 1499).comb(SHAFT, 0, 1), 1);
        due("at a mark", at(1000, 0, 500, 1500).comb(SHAFT, 0, 1), 2);
        due("just behind a mark", at(1000, 0, 500, 1501).comb(SHAFT, 0, 1), 2);
        due("far", at(1000, 0, 500, 9499).comb(SHAFT, 0, 1), 9);
        due("far", at(1000, 0, 500, 9500).comb(SHAFT, 0, 1), 10);
        due("of the last knock", at(1000, 0, 500, 9500).comb(SHAFT, 1, 1), 1);
        due("a hit ahead of its mark is none without the mark", at(1000, 490, 500, 1499).comb(SHAFT, 0, 0), 1);
        due("it is one with it", at(1000, 490, 500, 1499, 1600).comb(SHAFT, 0, 0), 2);
        // Angles are cut, marks are not: 1 by 3 of a turn from 333333 on is 0.33 behind 666666.
        due("cut angles", at(240, 0, 80, 160).comb(0, 0, 1), 1);
        due("cut angles", at(240, 0, 80, 161).comb(0, 0, 1), 2);
        due("whole angles", at(240, 0, 240, 480).comb(0, 0, 1), 4);
    }

    /** "of each MARK the KNOCK (k or one behind it) that is nearest to it (of like ones the earlier one)" */
    private static void nearestOfAMark() {
        due("the earlier of like ones", at(1000, 100, 500, 1490, 1510, 1700).hit(SHAFT, 0, 1), 1);
        due("the nearer one behind", at(1000, 100, 500, 1490, 1509, 1700).hit(SHAFT, 0, 1), 2);
        due("the nearer one ahead", at(1000, 100, 500, 1491, 1510, 1700).hit(SHAFT, 0, 1), 1);
        due("of three", at(1000, 100, 500, 1490, 1500, 1510).hit(SHAFT, 0, 1), 2);
        due("the earlier of like ones alone counts", at(1000, 100, 500, 1490, 1510, 1700).comb(SHAFT, 0, 0), 2);
        due("the nearest, not the strongest", at(1000, 100, 500, 1501, 1502).comb(SHAFT, 0, 3), 3);
        due("knocks ahead of k are none", at(1000, 490, 490, 500, 1500).hit(SHAFT, 1, 0), 1);
        due("k itself is mark 0's, not the one behind", at(1000, 490, 500, 501, 1500).hit(SHAFT, 0, 0), 0);
    }

    /** "if it is no farther than SLIP .. thousandths of a PERIOD": SLIP 0 to 490 */
    private static void noFartherThanSlip() {
        for (int slip : new int[] {0, 1, 99, 100, 489, 490}) {
            due("just within, ahead", at(1000, slip, 500, 1500 - slip, 2100).hit(SHAFT, 0, 1), 1);
            due("just without, ahead", at(1000, slip, 500, 1499 - slip, 2100).hit(SHAFT, 0, 1), -2);
            due("just within, behind", at(1000, slip, 500, 1500 + slip).hit(SHAFT, 0, 1), 1);
            due("just without, behind", at(1000, slip, 500, 1501 + slip).hit(SHAFT, 0, 1), -2);
        }
        // The longest turn: a tick is a fifth of a thousandth.
        due("490", at(5000, 490, 500, 5500 + 2450).hit(SHAFT, 0, 1), 1);
        due("490.2", at(5000, 490, 500, 5500 + 2451).hit(SHAFT, 0, 1), -2);
        due("490 ahead", at(5000, 490, 500, 5500 - 2450, 5500 + 2500).hit(SHAFT, 0, 1), 1);
        due("490.2 ahead", at(5000, 490, 500, 5500 - 2451, 5500 + 2500).hit(SHAFT, 0, 1), -2);
    }

    /** "SLIP and m DRIFT thousandths": DRIFT 0 to 50 */
    private static void slipAndDrift() {
        for (int drift : new int[] {0, 1, 7, 50}) {
            for (int m = 1; m <= 4; m++) {
                int off = 20 + m * drift;
                KnockFinder x = at(1000, 20, 500, 500 + 1000 * m + off);
                x.set(1, drift);
                due("just within at mark " + m, x.hit(SHAFT, 0, m), 1);
                due("how far", x.comb(SHAFT, 0, 5), off);
                KnockFinder y = at(1000, 20, 500, 501 + 1000 * m + off);
                y.set(1, drift);
                due("just without at mark " + m, y.hit(SHAFT, 0, m), -2);
            }
        }
    }

    /** "(490 at most)" */
    private static void atMost490() {
        int[][] all = {{100, 50, 7, 450}, {100, 50, 8, 490}, {490, 50, 1, 490}, {490, 0, 3, 490}, {440, 50, 1, 490},
            {441, 50, 1, 490}, {439, 50, 1, 489}, {0, 50, 9, 450}, {0, 50, 10, 490}};
        for (int[] one : all) {
            KnockFinder x = at(1000, one[0], 500, 500 + 1000 * one[2] + one[3]);
            x.set(1, one[1]);
            due("off by " + one[3] + " at mark " + one[2], x.hit(SHAFT, 0, one[2]), 1);
            KnockFinder y = at(1000, one[0], 500, 501 + 1000 * one[2] + one[3]);
            y.set(1, one[1]);
            due("off by one more at mark " + one[2], y.hit(SHAFT, 0, one[2]), -2);
        }
    }

    /** "SCORE: HITS by MARKS, in thousandths (cut)" */
    private static void scoreIsCut() {
        int[][] all = {{1, 1000}, {2, 666}, {3, 500}, {6, 285}, {7, 250}};
        for (int[] one : all) {
            due("2 of " + (one[0] + 1), at(1000, 0, 500, 500 + 1000 * one[0]).comb(SHAFT, 0, 2), one[1]);
        }
        due("1 of 3", at(1000, 0, 500, 2501).comb(SHAFT, 0, 2), 333);
        due("1 of 1", at(1000, 0, 500).comb(SHAFT, 0, 2), 1000);
        due("1 of 1001", at(20, 0, 500, 20501).comb(SHAFT, 0, 2), 0);
        due("1 of 1000", at(20, 0, 500, 20481).comb(SHAFT, 0, 2), 1);
    }

    /** "5 the most that a HIT is off, in thousandths of a PERIOD (cut)", "4 the tick of the last HIT" */
    private static void mostOffIsCut() {
        due("none is off", at(1000, 100, 500, 1500).comb(SHAFT, 0, 5), 0);
        due("the first of two", at(1000, 100, 500, 1503, 2502).comb(SHAFT, 0, 5), 3);
        due("the second of two", at(1000, 100, 500, 1502, 2497, 2600).comb(SHAFT, 0, 5), 3);
        // A turn of 4000: a tick is a quarter.
        due("3 quarters", at(4000, 100, 4, 4007).comb(SHAFT, 0, 5), 0);
        due("4 quarters", at(4000, 100, 4, 4008).comb(SHAFT, 0, 5), 1);
        due("7 quarters", at(4000, 100, 4, 4011).comb(SHAFT, 0, 5), 1);
        due("489.8", at(5000, 490, 500, 5500 + 2449).comb(SHAFT, 0, 5), 489);
        due("490", at(5000, 490, 500, 5500 + 2450).comb(SHAFT, 0, 5), 490);
        due("the last hit, not the last knock", at(1000, 100, 500, 1500, 1700).comb(SHAFT, 0, 4), 1500);
        due("the first is the last", at(1000, 100, 500, 1700).comb(SHAFT, 0, 4), 500);
    }

    /** "The KNOCK that is a HIT of MARK m of it; -2: it is none; -3: it has not so many MARKS" */
    private static void hitsOfMarks() {
        KnockFinder x = at(1000, 0, 500, 1500, 3500, 3600);
        int[] want = {0, 1, -2, 2, -3, -3};
        for (int m = 0; m < want.length; m++) {
            due("hit(4, 0, " + m + ")", x.hit(SHAFT, 0, m), want[m]);
        }
        due("far", x.hit(SHAFT, 0, Integer.MAX_VALUE), -3);
        due("of the last knock", x.hit(SHAFT, 3, 0), 3);
        due("of the last knock", x.hit(SHAFT, 3, 1), -3);
    }

    /** "of all KNOCKS from which it has 2 MARKS or more" */
    private static void bestOfTwoMarks() {
        due("no knock", new KnockFinder().best(SHAFT, 0), -2);
        due("one knock", at(1000, 490, 500).best(SHAFT, 0), -2);
        due("one mark", at(1000, 490, 500, 1499).best(SHAFT, 0), -2);
        due("two marks, two hits", at(1000, 0, 500, 1500).best(SHAFT, 0), 2);
        due("two marks, one hit", at(1000, 0, 500, 1501).best(SHAFT, 0), 1);
        due("its score", at(1000, 0, 500, 1501).best(SHAFT, 2), 500);
        // From 1490 on there is one mark alone, of score 1000.
        due("one mark from the last ones", at(1000, 0, 500, 1490, 1501).best(SHAFT, 6), 0);
        due("filtered to one", filteredTo("w1").best(SHAFT, 0), -2);
        due("filtered to none", filteredTo("w0").best(SHAFT, 0), -2);
        due("filtered to two", filteredTo("w2").best(SHAFT, 0), 2);
    }

    private static KnockFinder filteredTo(String steps) {
        KnockFinder x = at(1000, 0, 500, 1500, 2500);
        Checks.filters(x, steps);
        return x;
    }

    /** "the one with the most HITS, of like ones the higher SCORE, then the earliest KNOCK" */
    private static void bestOfLikeOnes() {
        // From 100: 3 of 5; from 3300: 2 of 2.
        KnockFinder x = at(1000, 0, 100, 1100, 3300, 4100, 4300);
        due("most hits", x.best(SHAFT, 6), 0);
        due("most hits", x.best(SHAFT, 0), 3);
        due("most hits", x.best(SHAFT, 2), 600);
        x.drop(1);
        // From 100: 2 of 5; from 3300: 2 of 2.
        due("the higher score", x.best(SHAFT, 6), 1);
        due("the higher score", x.best(SHAFT, 2), 1000);
        due("the earliest", at(1000, 0, 100, 300, 1100, 1300).best(SHAFT, 6), 0);
        due("the earliest of three", at(1000, 0, 100, 200, 300, 1100, 1200, 1300).best(SHAFT, 6), 0);
        due("later, with more", at(1000, 0, 100, 300, 1100, 1300, 2300).best(SHAFT, 6), 1);
        due("the earliest with one hit", at(1000, 0, 100, 150, 1300).best(SHAFT, 6), 0);
    }

    /** Scores are thousandths that are cut: 2 of 71 is 28, as 2 of 69. */
    private static void bestScoresAreCut() {
        KnockFinder x = at(20, 0, 20, 41, 1401, 1420);
        due("from 20", x.comb(SHAFT, 0, 1), 71);
        due("from 41", x.comb(SHAFT, 1, 1), 69);
        due("from 20", x.comb(SHAFT, 0, 2), 28);
        due("from 41", x.comb(SHAFT, 1, 2), 28);
        due("the earliest", x.best(SHAFT, 6), 0);
    }

    /** "the nearest KNOCK behind it to its ANGLE and g PERIODS (of like ones the earlier one)"; "with the first such g" */
    private static void chainOfNext() {
        due("alone", at(1000, 100, 500).chain(SHAFT, 0, 0), 1);
        due("alone, the last", at(1000, 100, 500).chain(SHAFT, 0, 1), 0);
        due("alone, periods", at(1000, 100, 500).chain(SHAFT, 0, 2), 0);
        due("the earlier of like ones", at(1000, 100, 100, 1050, 1150).chain(SHAFT, 0, 1), 1);
        due("the nearer one", at(1000, 100, 100, 1050, 1149).chain(SHAFT, 0, 1), 2);
        KnockFinder x = at(1000, 100, 100, 1190, 2100);
        due("the first g, though the second is nearer", x.chain(SHAFT, 0, 0), 3);
        due("the first g, periods", x.chain(SHAFT, 0, 2), 2);
        KnockFinder y = at(1000, 100, 100, 1250, 2100);
        due("the second g, as the first has none", y.chain(SHAFT, 0, 0), 2);
        due("the second g, periods", y.chain(SHAFT, 0, 2), 2);
        due("the second g, last", y.chain(SHAFT, 0, 1), 2);
        // From 1090 on: it goes by the knock, not by the first one's marks.
        due("from the latest on", at(1000, 100, 100, 1190, 2280, 3370).chain(SHAFT, 0, 0), 4);
        due("knocks ahead are none", at(1000, 100, 100, 1100, 1200).chain(SHAFT, 2, 0), 1);
    }

    /** "by g 1, 2, .. MISS + 1": MISS 0 to 5 */
    private static void chainOfMisses() {
        for (int miss = 0; miss <= 5; miss++) {
            KnockFinder x = at(1000, 10, 100, 100 + 1000 * (miss + 1));
            x.set(2, miss);
            due("miss " + miss, x.chain(SHAFT, 0, 0), 2);
            due("its periods", x.chain(SHAFT, 0, 2), miss + 1);
            KnockFinder y = at(1000, 10, 100, 100 + 1000 * (miss + 2));
            y.set(2, miss);
            due("one more than miss " + miss, y.chain(SHAFT, 0, 0), 1);
        }
        KnockFinder z = at(1000, 10, 100, 2100, 5100, 6100);
        z.set(2, 2);
        due("g added up", z.chain(SHAFT, 0, 2), 6);
        due("how many", z.chain(SHAFT, 0, 0), 4);
    }

    /** "if it is no farther than g SLIP thousandths (490 at most) of a PERIOD" */
    private static void chainOfSlips() {
        int[][] all = {{10, 1, 10}, {10, 2, 20}, {10, 6, 60}, {0, 1, 0}, {0, 6, 0}, {100, 4, 400}, {100, 5, 490}, {98, 5, 490},
            {97, 5, 485}, {490, 1, 490}};
        for (int[] one : all) {
            int target = 100 + 1000 * one[1];
            int[] ticks = {target + one[2], target + one[2] + 1, target - one[2], target - one[2] - 1};
            for (int i = 0; i < 4; i++) {
                KnockFinder x = at(1000, one[0], 100, ticks[i]);
                x.set(2, one[1] - 1);
                boolean within = i % 2 == 0;
                // Off by 491 ahead is 509 behind the mark before: none as well.
                due("slip " + one[0] + ", a knock at " + ticks[i], x.chain(SHAFT, 0, 0), within ? 2 : 1);
            }
        }
        due("490", at(5000, 490, 500, 5500 + 2450).chain(SHAFT, 0, 0), 2);
        KnockFinder y = at(5000, 490, 500, 5500 + 2451);
        y.set(2, 0);
        due("490.2", y.chain(SHAFT, 0, 0), 1);
        y.set(2, 1);
        due("490.2, and 509.8 of the next", y.chain(SHAFT, 0, 0), 1);
    }

    /** Each kind by its own period: 80, 48, 64, 640, 240 ticks. */
    private static void chainOfKinds() {
        int[] periods = {80, 48, 64, 640, 240};
        for (int kind = 0; kind < 5; kind++) {
            int p = periods[kind];
            KnockFinder x = at(240, 5, p, 2 * p, 3 * p, 5 * p);
            due("chain of kind " + kind, x.chain(kind, 0, 0), 4);
            due("its periods", x.chain(kind, 0, 2), 4);
            due("longest of kind " + kind, x.longest(kind, 0), 4);
            x.set(2, 0);
            due("without a miss", x.chain(kind, 0, 2), 2);
            due("the last one is alone now", x.chain(kind, 2, 0), 1);
            due("so it has no period", x.chain(kind, 2, 2), 0);
            due("so it is its own last", x.chain(kind, 2, 1), 2);
        }
    }

    /** "of all KNOCKS the one with the most in its CHAIN, of like ones the earliest" */
    private static void longestOfLikeOnes() {
        due("no knocks", new KnockFinder().longest(SHAFT, 0), -2);
        due("no knocks", new KnockFinder().longest(SHAFT, 3), -2);
        due("one knock", at(1000, 0, 5).longest(SHAFT, 3), 0);
        due("one knock", at(1000, 0, 5).longest(SHAFT, 0), 1);
        due("the earliest", at(1000, 0, 100, 300, 1100, 1300).longest(SHAFT, 3), 0);
        due("all alone", at(1000, 0, 100, 300, 900).longest(SHAFT, 3), 0);
        due("one more, later", at(1000, 0, 100, 300, 1100, 1300, 2300).longest(SHAFT, 3), 1);
        due("its last", at(1000, 0, 100, 300, 1100, 1300, 2300).longest(SHAFT, 1), 4);
        // Three knocks over four periods, and three over two: how many counts, not how far.
        due("like many", at(1000, 0, 100, 2100, 2300, 3300, 4100, 4300).longest(SHAFT, 3), 0);
    }

    /** "RATIOS with -3 to 3 added (those above 0)"; "-2: there is none, it is not above 0" */
    private static void sidesAboveNone() {
        KnockFinder x = at(1000, 0, 500, 1500, 2500, 3500, 4500);
        // Outer 3, inner 5, ball 15 by 4, cage 3 by 8, shaft 1.
        int[][] none = {{0, -3}, {3, -1}, {3, -3}, {4, -1}, {4, -2}, {4, -3}};
        for (int[] one : none) {
            due("side(" + one[0] + ", " + one[1] + ")", x.side(one[0], one[1]), -2);
        }
        due("outer 1", x.side(0, -2), 5);
        due("ball 3 by 4: a period of 1333", x.side(2, -3), 2);
        due("inner 2", x.side(1, -3), 5);
        due("shaft itself", x.side(SHAFT, 0), 5);
        due("shaft 4", x.side(SHAFT, 3), 5);
        due("cage 27 by 8: a period of 296.3", x.side(3, 3), 1);
        // Ball 15 by 4 and -2 are 7 by 4: by a turn of 700 a period of 400; and 1: 19 by 4, by a turn of 950 one of 200.
        due("ball 7 by 4", at(700, 5, 400, 800, 1200, 1600).side(2, -2), 4);
        due("ball 19 by 4", at(950, 5, 200, 400, 600, 800).side(2, 1), 4);
        due("ball itself has less", at(700, 5, 400, 800, 1200, 1600).side(2, 0), 1);
        due("by 4", x.side(0, 4), -1);
        due("by -4", x.side(0, -4), -1);
        due("too short for two marks", at(1000, 0, 500, 1499).side(SHAFT, 0), -2);
        due("long enough with one added", at(1000, 0, 500, 1000).side(SHAFT, 1), 2);
    }

    /** "eighths 0 to 7 (cut)"; "counted from the first of them" */
    private static void eighths() {
        // A turn of 800: an eighth is 100 ticks.
        int[][] all = {{1599, 7}, {1600, 0}, {1699, 0}, {1700, 1}, {1799, 1}, {1800, 2}, {1500, 7}, {1499, 6}, {1400, 6}, {1399, 5},
            {1900, 3}, {1899, 2}};
        for (int[] one : all) {
            KnockFinder x = at(800, 490, 800, one[0], 2400);
            due("the best comb is from the first", x.best(SHAFT, 6), 0);
            due("all three", x.best(SHAFT, 0), 3);
            for (int eighth = 0; eighth < 8; eighth++) {
                int want = (eighth == 0 ? 1 + 3 : 0) + (eighth == one[1] ? 2 : 0);
                due("a knock at " + one[0] + ", eighth " + eighth, x.folded(SHAFT, SHAFT, eighth), want);
            }
        }
        // The best comb goes from the second knock on, and is counted from it.
        KnockFinder y = at(800, 0, 150, 800, 1600);
        due("from the second", y.best(SHAFT, 6), 1);
        due("counted from it", y.folded(SHAFT, SHAFT, 0), 5);
    }

    /** "the greatest eighth less the least by all of them, in thousandths (cut; ..)" */
    private static void depth() {
        KnockFinder x = new KnockFinder();
        x.turn(100);
        x.bearing(3, 30, 40);
        Checks.trace(x, "(100a)8");
        due("the cage's ratio", x.ratio(3, 1), 8);
        for (int eighth = 0; eighth < 8; eighth++) {
            due("one in each eighth", x.folded(SHAFT, 3, eighth), 1);
        }
        due("no depth", x.folded(SHAFT, 3, 8), 0);
        Checks.trace(x, "100c");
        due("4, and 7 times 1", x.folded(SHAFT, 3, 0), 4);
        due("3 by 11", x.folded(SHAFT, 3, 8), 272);
        x.drop(7);
        x.drop(7);
        due("1 by 7", x.folded(SHAFT, 3, 8), 142);
        due("all in one", x.folded(SHAFT, SHAFT, 8), 1000);
        due("the greatest is not the first", strongLater().folded(SHAFT, 3, 8), 533);
        due("the first", strongLater().folded(SHAFT, 3, 0), 1);
        due("one hit, of strength 1", at(1000, 0, 500, 1501).folded(SHAFT, SHAFT, 8), 1000);
        due("one hit, of strength 1", at(1000, 0, 500, 1501).folded(SHAFT, SHAFT, 0), 1);
        due("no comb", at(100, 0, 5, 6).folded(SHAFT, SHAFT, 8), -2);
    }

    /** The shaft's knocks by the cage's eighths: 1, 2, 2, 2, 8 and none. */
    private static KnockFinder strongLater() {
        KnockFinder x = new KnockFinder();
        x.turn(100);
        x.bearing(3, 30, 40);
        Checks.trace(x, "100a(100b)3100h");
        return x;
    }

    /** "most HITS first, of like ones the higher SCORE, then the lower KIND (those without a COMB last, by KINDS)" */
    private static void rankedOfLikeOnes() {
        KnockFinder x = new KnockFinder();
        Checks.trace(x, "(80e)9");
        // Hits and marks: 9 of 9, 3 of 11, 3 of 11, 2 of 2, 3 of 3.
        int[] want = {0, 4, 1, 2, 3};
        for (int i = 0; i < 5; i++) {
            due("ranked(" + i + ")", x.ranked(i), want[i]);
        }
        // Outer and shaft are both 1.
        KnockFinder y = at(1000, 0, 500, 1500);
        y.bearing(4, 10, 20);
        due("the lower kind", y.ranked(0), 0);
        due("the higher kind, with 2 of 2", y.ranked(1), 4);
        due("without a comb", y.ranked(4), 3);
        KnockFinder z = at(1000, 0, 1, 900);
        z.bearing(3, 9, 10);
        // Outer 3 by 20, inner 57 by 20, ball 19 by 90, cage 1 by 20, shaft 1: the inner ring alone has two marks.
        int[] inner = {1, 0, 2, 3, 4};
        for (int i = 0; i < 5; i++) {
            due("one has a comb, " + i, z.ranked(i), inner[i]);
        }
        // Inner (48) 6 of 29, shaft 5 of 6, outer (80) 5 of 17.
        KnockFinder w = at(240, 0, 240, 480, 960, 1200, 1440, 1584);
        due("most hits, of the lowest score", w.ranked(0), 1);
        due("less hits, of the highest score", w.ranked(1), 4);
        due("like many hits, of a lower score", w.ranked(2), 0);
    }

    /** "if it has LEAST HITS": 2 to 50 */
    private static void leastHits() {
        KnockFinder x = new KnockFinder();
        x.turn(80);
        x.bearing(3, 9, 10);
        Checks.trace(x, "(80a)9(80a)9(80a)9(80a)9(80a)9(80a)5");
        due("50 of the shaft", x.best(SHAFT, 0), 50);
        x.set(3, 50);
        due("just enough", x.faults(0), 1);
        x.drop(49);
        due("one too few", x.faults(0), 0);
        due("all are left", x.faults(1), 49);
        x.set(3, 49);
        due("just enough", x.faults(0), 1);
        due("none is left", x.faults(1), 0);
        KnockFinder y = at(1000, 0, 500, 1500);
        y.bearing(3, 9, 10);
        y.set(3, 2);
        due("two of two", y.fault(0, 1), 2);
        y.set(3, 3);
        due("two are too few", y.faults(0), 0);
        due("so it has no report", y.report(0, -1), -2);
    }

    /** "and LEAST SCORE": 0 to 1000 */
    private static void leastScore() {
        // The shaft has 4 of 6: 666.
        KnockFinder x = at(1000, 0, 500, 1500, 2500, 5500);
        x.bearing(3, 9, 10);
        due("its score", x.best(SHAFT, 2), 666);
        x.set(4, 666);
        due("just enough", x.faults(0), 1);
        x.set(4, 667);
        due("one too little", x.faults(0), 0);
        x.set(4, 0);
        due("0 is enough", x.faults(0), 1);
        KnockFinder y = at(1000, 0, 500, 1500, 2500, 3500);
        y.bearing(3, 9, 10);
        y.set(4, 1000);
        due("1000 can be had", y.fault(0, 3), 1000);
    }

    /** "of KINDS not found yet .. its HITS go; till there is none" */
    private static void allKindsAreFound() {
        KnockFinder x = new KnockFinder();
        Checks.trace(x, "(((20a)9)7)3");
        x.set(3, 2);
        x.set(4, 0);
        due("all five", x.faults(0), 5);
        int hits = 0;
        int kinds = 0;
        for (int i = 0; i < 5; i++) {
            hits += x.fault(i, 1);
            kinds |= 1 << x.fault(i, 0);
        }
        due("each kind once", kinds, 31);
        due("all but their hits are left", x.faults(1), 189 - hits);
        due("no sixth", x.fault(5, 0), -2);
        due("no sixth", x.report(5, -1), -2);
        due("the fifth has a report", x.report(4, -1) > 0 ? 1 : 0, 1);
        KnockFinder none = new KnockFinder();
        due("no knocks, no faults", none.faults(0), 0);
        due("no knocks are left", none.faults(1), 0);
        KnockFinder one = at(1000, 490, 500);
        one.set(3, 2);
        one.set(4, 0);
        due("one knock, no comb, no fault", one.faults(0), 0);
        due("it is left", one.faults(1), 1);
    }

    /** "k -1: how many bytes; else byte k (not so many: -4); -2: there are not so many" */
    private static void reportBytes() {
        KnockFinder x = at(1000, 0, 500, 1500, 2500, 5500);
        x.bearing(3, 9, 10);
        String want = "shaft 4/6 66.6%";
        due("how many", x.report(0, -1), want.length());
        for (int k = 0; k < want.length(); k++) {
            due("byte " + k, x.report(0, k), want.charAt(k));
        }
        due("one more", x.report(0, want.length()), -4);
        due("no second fault", x.report(1, -1), -2);
        due("no second fault, no byte", x.report(1, 99), -2);
        KnockFinder y = at(20, 0, 500, 520, 540, 560, 2620);
        y.bearing(3, 9, 10);
        y.set(4, 0);
        // 5 of 107: 46.
        C.isTrue("below ten: " + Checks.report(y, 0), Checks.report(y, 0).equals("shaft 5/107 4.6%"));
        KnockFinder z = at(20, 0, 500, 520, 540, 560, 36520);
        z.bearing(3, 9, 10);
        z.set(4, 0);
        // 5 of 1802: 2.
        C.isTrue("below one: " + Checks.report(z, 0), Checks.report(z, 0).equals("shaft 5/1802 0.2%"));
    }

    /** "-2: one has none" */
    private static void sharedWithout() {
        KnockFinder x = at(1000, 0, 500, 1500);
        due("cage has none, as second", x.shared(SHAFT, 3), -2);
        due("cage has none, as first", x.shared(3, SHAFT), -2);
        due("neither has", x.shared(3, 3), -2);
        due("both have", x.shared(SHAFT, 0), 2);
        due("the same", x.shared(SHAFT, SHAFT), 2);
        KnockFinder y = at(1000, 0, 500, 600, 1600);
        // Shaft 600 and 1600, inner (200) as well; ball (266.7) 1 of 4 from 600.
        due("two", y.shared(SHAFT, 1), 2);
        due("one", y.shared(SHAFT, 2), 1);
    }

    /** "(2 MARKS or more each)"; "of like ones the earliest KNOCK of the first KIND, then of the second" */
    private static void bothOfLikeOnes() {
        due("no knocks", new KnockFinder().both(0, 1, 0), -2);
        due("one has one mark alone", at(1000, 490, 500, 1499).both(0, SHAFT, 0), -2);
        due("one has one mark alone", at(1000, 490, 500, 1499).both(SHAFT, 0, 1), -2);
        KnockFinder x = at(1000, 0, 500, 600, 1500, 1600);
        x.bearing(4, 10, 20);
        // Outer and shaft are 1: from 500 and from 600 together all four.
        due("all four", x.both(0, SHAFT, 0), 4);
        due("the first from the earliest", x.both(0, SHAFT, 1), 0);
        due("the second from the other", x.both(0, SHAFT, 2), 1);
        due("the first from the earliest", x.both(SHAFT, 0, 1), 0);
        due("the second from the other", x.both(SHAFT, 0, 2), 1);
        KnockFinder y = at(1000, 0, 500, 1500, 2500);
        y.bearing(4, 10, 20);
        due("all three", y.both(0, SHAFT, 0), 3);
        due("both from the earliest", y.both(0, SHAFT, 1), 0);
        due("both from the earliest", y.both(0, SHAFT, 2), 0);
        due("what 3", y.both(0, SHAFT, 3), -1);
        // From 100 on one alone, from 200 and from 300 two each.
        KnockFinder w = at(1000, 0, 100, 200, 300, 1200, 1300);
        w.bearing(4, 10, 20);
        due("all but the first", w.both(0, SHAFT, 0), 4);
        due("the first from the second", w.both(0, SHAFT, 1), 1);
        due("the second from the third", w.both(0, SHAFT, 2), 2);
        KnockFinder z = at(1000, 0, 500, 1500, 2499);
        z.bearing(4, 10, 20);
        due("the last one is none's", z.both(0, SHAFT, 0), 2);
    }

    /** "times w by the ticks from the first to the last one and 1, are i (cut)" */
    private static void windows() {
        KnockFinder x = at(1000, 0, 100, 199, 200, 899);
        int[] want = {2, 1, 0, 0, 0, 0, 0, 1};
        for (int i = 0; i < 8; i++) {
            due("window " + i + " of 8", x.window(i, 8, 0, 2), want[i]);
        }
        due("of one", x.window(0, 1, 0, 2), 4);
        KnockFinder y = at(1000, 0, 100, 499, 500, 899);
        due("of two, the first", y.window(0, 2, 0, 2), 2);
        due("of two, the second", y.window(1, 2, 0, 2), 2);
        KnockFinder alone = at(1000, 0, 100);
        due("one knock is in the first", alone.window(0, 8, 0, 2), 1);
        due("one knock is not in the last", alone.window(7, 8, 0, 2), 0);
        due("it has no comb", alone.window(0, 8, 0, 0), -2);
        due("an empty window has no comb", alone.window(7, 8, 0, 1), -2);
        due("no knocks", new KnockFinder().window(0, 1, 0, 2), -2);
        due("no knocks, wrong i", new KnockFinder().window(1, 1, 0, 2), -1);
        KnockFinder z = at(1000, 0, 100, 1100, 2100, 3100, 4100, 5150);
        // 5051 wide: of two up to 2625 behind.
        due("by these alone: hits", z.window(0, 2, SHAFT, 0), 3);
        due("by these alone: score", z.window(0, 2, SHAFT, 1), 1000);
        due("by these alone: hits", z.window(1, 2, SHAFT, 0), 2);
        due("by these alone: score", z.window(1, 2, SHAFT, 1), 666);
        KnockFinder shortest = at(1000, 0, 100, 101, 102, 103, 104, 105, 106, 107);
        for (int i = 0; i < 8; i++) {
            due("one in each", shortest.window(i, 8, 0, 2), 1);
        }
    }
}
