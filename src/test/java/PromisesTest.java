/** For each promise ordinary inputs, edges and wrong inputs; the answers were worked out by hand. */
public final class PromisesTest {
    private static final Checks C = new Checks();

    private static final int MIN = Integer.MIN_VALUE;
    private static final int MAX = Integer.MAX_VALUE;

    private static void due(String call, long got, long want) {
        C.due(call, got, want);
    }

    /** A finder with a trace. */
    private static KnockFinder with(String trace) {
        KnockFinder x = new KnockFinder();
        C.isTrue("trace " + trace, Checks.trace(x, trace) >= 0);
        return x;
    }

    public static void main(String[] args) {
        newObject();
        feed();
        bearing();
        turn();
        speeds();
        speedFaults();
        angle();
        traces();
        traceFaults();
        traceLimits();
        filters();
        filterFaults();
        set();
        drop();
        notes();
        line();
        dueDays();
        undo();
        get();
        knock();
        ratio();
        comb();
        combSlip();
        combDrift();
        combOnSpeeds();
        hit();
        best();
        side();
        shared();
        both();
        window();
        report();
        chain();
        longest();
        folded();
        ranked();
        faults();
        apart();
        lag();
        lags();
        nearest();
        tried();
        bestTurn();
        check();
        manyKnocks();
        C.end();
    }

    private static void newObject() {
        KnockFinder x = new KnockFinder();
        int[] want = {100, 0, 1, 4, 500, 8, 10, 40, 240, 0, 0, 0, 0, 0, 0, 0};
        for (int what = 0; what < want.length; what++) {
            due("1 get(" + what + ")", x.get(what), want[what]);
        }
        due("1 NONE", KnockFinder.NONE, -1);
    }

    private static void feed() {
        KnockFinder x = new KnockFinder();
        for (int i = 1; i <= 12; i++) {
            due("2 feed", x.feed(0, -1, MIN, MAX, i), 20 * i);
        }
        due("2 feed full", x.feed(0, 0, 0, 0, 0), -1);
        due("2 stays", x.get(12), 240);
        due("2 not an act", x.get(13), 0);
        KnockFinder y = new KnockFinder();
        y.feed('1' << 24 | '2' << 16 | 'a' << 8 | '3', 'b' << 24, 0, 0, 0);
        due("2 highest first", y.trace(5), 2);
        due("2 first tick", y.knock(0, 0), 12);
        due("2 second tick", y.knock(1, 0), 15);
    }

    private static void bearing() {
        KnockFinder x = new KnockFinder();
        int[][] wrong = {{2, 10, 40}, {31, 10, 40}, {8, 0, 40}, {8, 99, 400}, {8, 1, 1}, {8, 10, 10},
            {8, 10, 1000}, {8, 10, 9}, {MIN, 10, 40}, {8, MAX, MAX}, {8, 10, MIN}};
        for (int[] w : wrong) {
            due("3 bearing wrong", x.bearing(w[0], w[1], w[2]), -1);
        }
        due("3 no act", x.get(13), 0);
        int[][] right = {{3, 1, 2}, {30, 98, 999}, {30, 98, 99}, {8, 10, 11}};
        for (int[] r : right) {
            due("3 bearing", x.bearing(r[0], r[1], r[2]), 0);
            due("3 balls", x.get(5), r[0]);
            due("3 ball", x.get(6), r[1]);
            due("3 ring", x.get(7), r[2]);
        }
        due("3 acts", x.get(13), 4);
    }

    private static void turn() {
        KnockFinder x = new KnockFinder();
        due("4 turn(20)", x.turn(20), 240);
        due("4 turn(5000)", x.turn(5000), 20);
        due("4 turn(19)", x.turn(19), -1);
        due("4 turn(5001)", x.turn(5001), -1);
        due("4 turn(MIN)", x.turn(MIN), -1);
        due("4 same again", x.turn(5000), 5000);
        due("4 get", x.get(8), 5000);
        due("4 acts, also one that changes nothing", x.get(13), 3);
    }

    private static void speeds() {
        KnockFinder x = new KnockFinder();
        due("5 one", Checks.speeds(x, "0:20"), 1);
        due("5 ten", Checks.speeds(x, "0:20;1:20;2:20;3:20;4:20;5:20;6:20;7:20;8:20;99999:5000"), 10);
        due("5 tape is empty", x.get(12), 0);
        due("5 in place of those before", Checks.speeds(x, "00400:0480"), 1);
        due("5 spans", x.get(14), 1);
        due("5 turn of the span", x.angle(880) - x.angle(400), 1000000);
        x.feed(0, 0, 0, 0, 0);
        due("5 n too great for the tape", x.speeds(21), -1);
        due("5 n below 0", x.speeds(-1), -1);
        due("5 the tape stays", x.get(12), 20);
        due("5 none", x.speeds(0), 0);
        due("5 spans", x.get(14), 0);
        due("5 tape is empty then, too", x.get(12), 0);
        for (int i = 0; i < 6; i++) {
            x.feed(0, 0, 0, 0, 0);
        }
        due("5 n above 100", x.speeds(101), -1);
        due("5 the tape stays", x.get(12), 120);
        due("5 a fault", x.speeds(100), -1000);
        due("5 empty behind a fault", x.get(12), 0);
        due("5 acts", x.get(13), 4);
    }

    private static void speedFaults() {
        String ten = "1:20;2:20;3:20;4:20;5:20;6:20;7:20;8:20;9:20;10:20";
        Object[][] all = {
            {":20", 1, 0}, {"x", 1, 0}, {"5", 1, 1}, {"5:", 1, 2}, {"5;20", 1, 1}, {"5:x", 1, 2},
            {"5:20;", 1, 5}, {"5:20 ", 1, 4}, {"5:20:", 1, 4}, {";5:20", 1, 0}, {"5:20;;6:20", 1, 5},
            {"123456:20", 2, 5}, {"5:20000", 2, 6}, {"5:00020", 2, 6}, {"000005:20", 2, 5},
            {"5:19", 3, 2}, {"5:5001", 3, 2}, {"5:0", 3, 2}, {"5:19x", 3, 2}, {"5:20;5:20", 3, 5},
            {"5:20;4", 3, 5}, {"5:20;4x", 3, 5}, {"5:20;400000:20", 2, 10}, {"5:20;000000", 2, 10},
            {ten + ";11:20", 4, 51}, {ten + ";x", 4, 51}, {ten + ";", 4, 51}, {ten + ";;", 4, 51},
            {ten + "x", 1, 50}, {ten + ":", 1, 50},
        };
        for (Object[] one : all) {
            KnockFinder x = new KnockFinder();
            Checks.speeds(x, "7:70");
            due("5 speeds " + one[0], Checks.speeds(x, (String) one[0]), Checks.fault((int) one[1], (int) one[2]));
            due("5 those before stay", x.get(14), 1);
            due("5 no act", x.get(13), 1);
            due("5 empty", x.get(12), 0);
            due("5 angle as before", x.angle(77), 29166 + 1000000);
        }
    }

    private static void angle() {
        KnockFinder x = new KnockFinder();
        due("6 angle(-1)", x.angle(-1), -1);
        due("6 angle(100000)", x.angle(100000), -1);
        due("6 angle(MIN)", x.angle(MIN), -1);
        due("6 angle(0)", x.angle(0), 0);
        due("6 angle(7)", x.angle(7), 29166);
        due("6 angle(99999)", x.angle(99999), 416662500);
        Checks.speeds(x, "7:70;10:30;20:21");
        due("6 at the span", x.angle(7), 29166);
        due("6 in the first", x.angle(8), 29166 + 14285);
        due("6 in the second", x.angle(11), 29166 + 42857 + 33333);
        due("6 each part is cut by itself", x.angle(22), 29166 + 42857 + 333333 + 95238);
        x.turn(20);
        due("6 turn ahead of the first span", x.angle(22), 350000 + 42857 + 333333 + 95238);
        Checks.speeds(x, "0:20");
        due("6 above what an int holds", x.angle(99999), 4999950000L);
        due("6 a span from 0 on", x.angle(1), 50000);
    }

    private static void traces() {
        KnockFinder x = new KnockFinder();
        due("7 trace", Checks.trace(x, "5a"), 1);
        due("7 behind those there are", Checks.trace(x, "10z020b003c"), 4);
        int[][] want = {{5, 1}, {15, 26}, {35, 2}, {38, 3}};
        for (int k = 0; k < 4; k++) {
            due("7 tick", x.knock(k, 0), want[k][0]);
            due("7 strength", x.knock(k, 1), want[k][1]);
        }
        KnockFinder y = with("(1a(2b)2)3((3c)2)2");
        due("7 rounds in rounds", y.get(9), 13);
        int[] ticks = {1, 3, 5, 6, 8, 10, 11, 13, 15, 18, 21, 24, 27};
        for (int k = 0; k < ticks.length; k++) {
            due("7 tick", y.knock(k, 0), ticks[k]);
            due("7 strength", y.knock(k, 1), k >= 9 ? 3 : k % 3 == 0 ? 1 : 2);
        }
        due("7 three open", Checks.trace(y, "(((1a)9)2)2"), 13 + 36);
        due("7 one behind the other", Checks.trace(y, "(1a)2(1a)2(1a)2(1a)2"), 13 + 36 + 8);
        y.feed(0, 0, 0, 0, 0);
        due("7 n too great for the tape", y.trace(21), -1);
        due("7 n 0", y.trace(0), -1);
        due("7 n below 0", y.trace(MIN), -1);
        due("7 the tape stays", y.get(12), 20);
        for (int i = 0; i < 11; i++) {
            y.feed(0, 0, 0, 0, 0);
        }
        due("7 n above 200", y.trace(201), -1);
        due("7 the tape stays", y.get(12), 240);
        due("7 n 200", y.trace(200), -1000);
        due("7 empty behind a fault", y.get(12), 0);
    }

    private static void traceFaults() {
        Object[][] all = {
            {"a", 1, 0}, {")", 1, 0}, {" 5a", 1, 0}, {"5", 1, 1}, {"55", 1, 2}, {"5a5", 1, 3}, {"5A", 1, 1},
            {"5{", 1, 1}, {"5`", 1, 1}, {"5a;", 1, 2}, {"5(", 1, 1}, {"5)", 1, 1}, {"(", 1, 1}, {"()2", 1, 1},
            {"(5a", 1, 3}, {"(5a)", 1, 4}, {"(5a)1", 1, 4}, {"(5a)0", 1, 4}, {"(5a)a", 1, 4}, {"(5a)(", 1, 4},
            {"5a)2", 1, 2}, {"(5a)2)2", 1, 5}, {"((5a)2", 1, 6}, {"(5a())2", 1, 4}, {"(((", 1, 3},
            {"(5a)2a", 1, 5}, {"(5a)2()", 1, 6},
            {"1000a", 2, 3}, {"0000a", 2, 3}, {"5a1234", 2, 5}, {"(1111", 2, 4},
            {"0a", 3, 0}, {"00a", 3, 0}, {"000", 3, 0}, {"0A", 3, 0}, {"0", 3, 0}, {"5a00(", 3, 2}, {"(0a)2", 3, 1},
            {"((((", 5, 3}, {"((((5a)2)2)2)2", 5, 3}, {"(((5a)2(5a)2(", 1, 13}, {"(((5a(", 5, 5}, {"(((5(", 1, 4},
        };
        for (Object[] one : all) {
            KnockFinder x = with("9z");
            due("7 trace " + one[0], Checks.trace(x, (String) one[0]), Checks.fault((int) one[1], (int) one[2]));
            due("7 none came", x.get(9), 1);
            due("7 no act", x.get(13), 1);
            due("7 empty", x.get(12), 0);
        }
        KnockFinder y = new KnockFinder();
        y.feed('5' << 24 | 'a' << 16 | 255 << 8, 0, 0, 0, 0);
        due("7 a byte above 127", y.trace(3), -1002);
        due("7 a fault comes ahead of too many", Checks.trace(y, "(((1a)9)9)9x"), Checks.fault(1, 11));
    }

    private static void traceLimits() {
        KnockFinder x = with("(((1a)8)5)5");
        due("7 200", x.get(9), 200);
        due("7 one more", Checks.trace(x, "1a"), -3);
        due("7 stays", x.get(9), 200);
        due("7 too many comes first", Checks.trace(x, "999a"), -3);
        KnockFinder y = new KnockFinder();
        due("7 162 of 999", Checks.trace(y, "(((999a)9)9)2"), -4);
        due("7 up to 99900", Checks.trace(y, "((999a)5(999a)5)9(999a)9999a"), 100);
        due("7 up to 99999", Checks.trace(y, "99b"), 101);
        due("7 the last tick", y.knock(100, 0), 99999);
        due("7 a tick above", Checks.trace(y, "1c"), -4);
        due("7 stays", y.get(9), 101);
        y.drop(100);
        due("7 what comes first: ticks", Checks.trace(y, "99a(((1a)9)9)9"), -4);
        due("7 all or none", y.get(9), 100);
        due("7 tape empty", y.get(12), 0);
        KnockFinder z = with("(((1a)5)5)7");
        due("7 what comes first: many", Checks.trace(z, "(1a)9(1a)9(1a)8((999a)9(999a)9)9"), -3);
        due("7 just as many", Checks.trace(z, "(1a)9(1a)9(1a)7"), 200);
    }

    private static void filters() {
        String trace = "10a5b20c1d4e30z";
        Object[][] all = {
            {"a3", "35/3 36/4 40/5 70/26"}, {"a27", ""}, {"a0", "10/1 15/2 35/3 36/4 40/5 70/26"},
            {"b3", "10/1 15/2 35/3"}, {"b0", ""}, {"m5", "10/1 15/2 35/7 40/5 70/26"},
            {"m6", "10/3 35/12 70/26"}, {"m0", "10/1 15/2 35/3 36/4 40/5 70/26"}, {"m99", "10/41"},
            {"k1", "10/1 15/2 35/3 36/4 40/5 70/26"}, {"k2", "10/1 35/3 40/5"}, {"k05", "10/1 70/26"},
            {"k99", "10/1"}, {"r2", "35/3 36/4 40/5 70/26"}, {"r0;w1", "10/1"}, {"r6", ""}, {"w0", ""},
            {"w2", "10/1 15/2"}, {"x5", "10/1 15/1 35/1 36/2 40/2 70/13"}, {"x99", "10/9 15/19 35/29 36/39 40/49 70/99"},
            {"y7;y99", "116/1 121/2 141/3 142/4 146/5 176/26"}, {"r1;k2", "15/2 36/4 70/26"},
            {"k2;r1", "35/3 40/5"}, {"a2;b4;y1;x10;m99;w9;r0;a1;b99;k1", "16/9"}, {"x99;m99", "10/99"},
        };
        for (Object[] one : all) {
            KnockFinder x = with(trace);
            String want = (String) one[1];
            int many = want.isEmpty() ? 0 : want.split(" ").length;
            due("8 filters " + one[0], Checks.filters(x, (String) one[0]), many);
            C.isTrue("8 seen behind " + one[0] + " is " + seen(x), seen(x).equals(want));
            due("8 the trace stays", x.get(9), 6);
            due("8 none", x.filters(0), 6);
            due("8 acts", x.get(13), 3);
        }
        KnockFinder y = with(trace);
        Checks.filters(y, "r2");
        Checks.trace(y, "5a");
        due("8 later knocks are filtered, too", y.get(10), 5);
        y.feed(0, 0, 0, 0, 0);
        due("8 n below 0", y.filters(-1), -1);
        due("8 n too great for the tape", y.filters(21), -1);
        due("8 the tape stays", y.get(12), 20);
        y.filters(0);
        due("8 empty with 0, too", y.get(12), 0);
        for (int i = 0; i < 4; i++) {
            y.feed(0, 0, 0, 0, 0);
        }
        due("8 n above 60", y.filters(61), -1);
        due("8 n 60", y.filters(60), -1000);
    }

    private static String seen(KnockFinder x) {
        StringBuilder b = new StringBuilder();
        for (int k = 0; k < x.get(10); k++) {
            b.append(k == 0 ? "" : " ").append(x.knock(k, 0)).append('/').append(x.knock(k, 1));
        }
        return b.toString();
    }

    private static void filterFaults() {
        String ten = "a1;a1;a1;a1;a1;a1;a1;a1;a1;a1";
        Object[][] all = {
            {"c1", 1, 0}, {"A1", 1, 0}, {"1", 1, 0}, {";", 1, 0}, {"a", 1, 1}, {"aa", 1, 1}, {"a;", 1, 1},
            {"a1;", 1, 3}, {"a1,a2", 1, 2}, {"a1a2", 1, 2}, {"a1;;", 1, 3}, {"a12x", 1, 3},
            {"a123", 2, 3}, {"k000", 2, 3}, {"a1;y100", 2, 6},
            {"k0", 3, 1}, {"x0", 3, 1}, {"k00", 3, 1}, {"x0z", 3, 1}, {"a0;x00;", 3, 4}, {"k0;z", 3, 1},
            {ten + ";a1", 4, 30}, {ten + ";z", 4, 30}, {ten + ";", 4, 30}, {ten + ";k0", 4, 30}, {ten + "z", 1, 29},
        };
        for (Object[] one : all) {
            KnockFinder x = with("5a5b");
            Checks.filters(x, "r1");
            due("8 filters " + one[0], Checks.filters(x, (String) one[0]), Checks.fault((int) one[1], (int) one[2]));
            due("8 those before stay", x.get(11), 1);
            due("8 seen as before", x.get(10), 1);
            due("8 no act", x.get(13), 2);
            due("8 empty", x.get(12), 0);
        }
    }

    private static void set() {
        int[][] range = {{0, 490, 100}, {0, 50, 0}, {0, 5, 1}, {2, 50, 4}, {0, 1000, 500}};
        KnockFinder x = new KnockFinder();
        for (int what = 0; what < 5; what++) {
            due("9 low", x.set(what, range[what][0]), range[what][2]);
            due("9 high", x.set(what, range[what][1]), range[what][0]);
            due("9 below", x.set(what, range[what][0] - 1), -1);
            due("9 above", x.set(what, range[what][1] + 1), -1);
            due("9 get", x.get(what), range[what][1]);
        }
        due("9 set(-1)", x.set(-1, 1), -1);
        due("9 set(5)", x.set(5, 8), -1);
        due("9 set(MIN)", x.set(MIN, 8), -1);
        due("9 acts", x.get(13), 8);
    }

    private static void drop() {
        KnockFinder x = with("1a2b3c4d");
        Checks.filters(x, "r2");
        due("10 of the trace", x.drop(1), 3);
        due("10 seen", x.get(10), 1);
        due("10 which", x.knock(0, 0), 10);
        due("10 drop(3)", x.drop(3), -1);
        due("10 drop(-1)", x.drop(-1), -1);
        due("10 the last", x.drop(2), 2);
        due("10 next one is behind the last", Checks.trace(x, "5e"), 3);
        due("10 its tick", x.knock(0, 0), 11);
        x.drop(0);
        x.drop(0);
        due("10 none left", x.drop(0), 0);
        due("10 no more", x.drop(0), -1);
        x.filters(0);
        Checks.trace(x, "7e");
        due("10 the first of all is behind tick 0", x.knock(0, 0), 7);
    }

    private static void notes() {
        KnockFinder x = new KnockFinder();
        due("11 note(-1)", x.note(-1), -1);
        due("11 note(10000)", x.note(10000), -1);
        due("11 note(0)", x.note(0), 1);
        due("11 not above", x.note(0), -4);
        due("11 none comes first", x.note(-1), -1);
        Checks.trace(x, "(80e)9");
        due("11 note(7)", x.note(7), 2);
        due("11 below the last", x.note(6), -4);
        int[] want = {7, 9, 3, 3, 2, 3, 45, 15, 15, 10, 15};
        for (int what = 0; what <= 10; what++) {
            due("12 without a comb", x.noteIs(0, what), 0);
            due("12 noteIs(1, " + what + ")", x.noteIs(1, what), want[what]);
        }
        due("12 what 11", x.noteIs(1, 11), -1);
        due("12 what -1", x.noteIs(1, -1), -1);
        due("12 i 2", x.noteIs(2, 0), -1);
        due("12 i -1", x.noteIs(-1, 0), -1);
        x.drop(0);
        due("12 as it was then", x.noteIs(1, 1), 9);
        due("15 notes", x.get(15), 2);
        for (int i = 3; i <= 20; i++) {
            due("11 more", x.note(i * 10), i);
        }
        due("11 full", x.note(9999), -3);
        due("11 full comes ahead", x.note(3), -3);
        due("11 none comes first", x.note(10000), -1);
        x.undo();
        due("11 undone", x.get(15), 19);
        due("11 the last day", x.note(9999), 20);
        KnockFinder y = with("(80e)9");
        y.note(5);
        y.undo();
        Checks.filters(y, "a99");
        y.note(6);
        for (int what = 1; what <= 10; what++) {
            due("12 nothing is left of what was undone", y.noteIs(0, what), 0);
        }
    }

    /** A finder whose shaft turns once in so many ticks, all angles being whole; a cage's period is twenty turns. */
    private static KnockFinder turning(int ticks, String trace) {
        KnockFinder x = new KnockFinder();
        x.turn(ticks);
        x.bearing(3, 9, 10);
        C.isTrue("trace " + trace, Checks.trace(x, trace) >= 0);
        return x;
    }

    /** Strengths of the shaft: more knocks each time. */
    private static KnockFinder withNotes() {
        KnockFinder x = turning(80, "80e");
        x.note(10);
        Checks.trace(x, "80e");
        x.note(12);
        Checks.trace(x, "(80e)3");
        x.note(15);
        return x;
    }

    private static void line() {
        long none = Long.MIN_VALUE;
        KnockFinder x = with("(80e)9");
        due("13 no notes", x.line(0, 0), none);
        x.note(3);
        due("13 one note", x.line(0, 0), none);
        KnockFinder y = withNotes();
        // Days 10, 12, 15; strengths 0, 10, 25: by 5 a day.
        due("13 rise above", y.line(4, 0), 5);
        due("13 rise below", y.line(4, 1), 1);
        due("13 on the last day", y.line(4, 2), 25);
        due("13 kind 5", y.line(5, 0), none);
        due("13 kind -1", y.line(-1, 0), none);
        due("13 what 3", y.line(4, 3), none);
        due("13 what -1", y.line(4, -1), none);
        y.note(20);
        // Days 10, 12, 15, 20; strengths 0, 10, 25, 25: (4 * 995 - 57 * 60) by (4 * 869 - 57 * 57), 560 by 227.
        due("13 rise above", y.line(4, 0), 560);
        due("13 rise below", y.line(4, 1), 227);
        // 15 and 560 by 227 times 5.75 is 29.18..
        due("13 on the last day", y.line(4, 2), 29);
        due("13 no rise", y.line(3, 0), 0);
        due("13 in lowest terms", y.line(3, 1), 1);
        due("13 flat", y.line(3, 2), 0);
        KnockFinder z = turning(80, "(80e)9");
        z.note(0);
        z.note(1);
        z.drop(0);
        z.note(2);
        Checks.filters(z, "a9");
        z.note(9);
        // Days 0, 1, 2, 9; strengths 45, 45, 40, 0: (4 * 125 - 12 * 130) by (4 * 86 - 144), -1060 by 200.
        due("13 falls", z.line(4, 0), -53);
        due("13 falls below", z.line(4, 1), 10);
        // 32.5 less 5.3 times 6 is 0.7.
        due("13 downwards", z.line(4, 2), 0);
        z.note(10);
        z.note(11);
        // Days sum 33, strengths 130; squares 307; products 125: (750 - 4290) by (1842 - 1089).
        due("13 falls", z.line(4, 0), -1180);
        due("13 falls below", z.line(4, 1), 251);
        // 21.67 less 4.70 times 5.5 is -4.19.
        due("13 downwards below 0", z.line(4, 2), -5);
    }

    private static void dueDays() {
        KnockFinder x = with("(80e)9");
        due("14 none", x.due(0, 5), -3);
        x.note(3);
        due("14 one", x.due(0, 5), -3);
        due("14 kind comes first", x.due(5, 5), -1);
        due("14 limit comes first", x.due(0, 100000), -1);
        KnockFinder y = withNotes();
        due("14 on the last day", y.due(4, 25), 15);
        due("14 already", y.due(4, 0), 15);
        due("14 a day later", y.due(4, 26), 16);
        due("14 just there", y.due(4, 30), 16);
        due("14 behind it", y.due(4, 31), 17);
        due("14 far", y.due(4, 99999), 10 + 20000);
        due("14 wrong kind", y.due(-1, 31), -1);
        due("14 wrong limit", y.due(4, -1), -1);
        due("14 flat", y.due(3, 1), -2);
        due("14 flat at the limit", y.due(3, 0), 15);
        KnockFinder z = turning(80, "(80e)9");
        z.note(1);
        z.drop(8);
        z.note(2);
        due("14 falls", z.due(4, 41), -2);
        due("14 falls, above still", z.due(4, 40), 2);
        KnockFinder w = turning(80, "(80e)8");
        w.note(0);
        Checks.trace(w, "80e");
        w.note(9999);
        // 5 in 9999 days: 90 at 9 * 9999, 95 at 99990 + 9999.
        due("14 up to 99999", w.due(4, 90), 99990);
        due("14 behind 99999", w.due(4, 91), -2);
        KnockFinder v = turning(80, "80e");
        v.note(9);
        Checks.trace(v, "80e");
        v.note(19);
        due("14 at 99999", v.due(4, 99990), 99999);
        due("14 behind 99999", v.due(4, 99991), -2);
    }

    private static void undo() {
        KnockFinder x = new KnockFinder();
        due("15 none", x.undo(), -1);
        x.turn(100);
        x.bearing(9, 9, 99);
        Checks.speeds(x, "5:50");
        Checks.trace(x, "(80e)4");
        Checks.filters(x, "w3");
        x.set(0, 7);
        x.drop(0);
        x.note(4);
        due("15 eight", x.get(13), 8);
        int[] left = {7, 6, 5, 4, 3, 2, 1, 0};
        due("15 note", x.undo(), left[0]);
        due("15 notes", x.get(15), 0);
        due("15 drop", x.undo(), left[1]);
        due("15 knocks", x.get(9), 4);
        due("15 set", x.undo(), left[2]);
        due("15 slip", x.get(0), 100);
        due("15 filters", x.undo(), left[3]);
        due("15 seen", x.get(10), 4);
        due("15 trace as a whole", x.undo(), left[4]);
        due("15 knocks", x.get(9), 0);
        due("15 speeds", x.undo(), left[5]);
        due("15 spans", x.get(14), 0);
        due("15 bearing", x.undo(), left[6]);
        due("15 ring", x.get(7), 40);
        due("15 turn", x.undo(), left[7]);
        due("15 turn is", x.get(8), 240);
        due("15 none", x.undo(), -1);
        for (int i = 1; i <= 10; i++) {
            x.turn(100 + i);
        }
        due("15 the latest eight", x.get(13), 8);
        for (int i = 7; i >= 0; i--) {
            due("15 back", x.undo(), i);
            due("15 turn", x.get(8), 102 + i);
        }
        due("15 no more", x.undo(), -1);
        x.feed(0, 0, 0, 0, 0);
        x.turn(300);
        x.undo();
        due("15 the tape is no act's", x.get(12), 20);
        due("15 turned back", x.get(8), 102);
        x.trace(1);
        x.feed('5' << 24 | 'a' << 16, 0, 0, 0, 0);
        x.trace(2);
        x.undo();
        due("15 bytes that were taken don't come back", x.get(12), 0);
    }

    private static void get() {
        KnockFinder x = with("(80e)5");
        Checks.filters(x, "w3;a1");
        Checks.speeds(x, "1:20;2:20;3:20");
        x.note(1);
        x.feed(0, 0, 0, 0, 0);
        int[] want = {100, 0, 1, 4, 500, 8, 10, 40, 240, 5, 3, 2, 20, 4, 3, 1, -1};
        for (int what = 0; what < want.length; what++) {
            due("16 get(" + what + ")", x.get(what), want[what]);
        }
        due("16 get(-1)", x.get(-1), -1);
        due("16 get(MIN)", x.get(MIN), -1);
    }

    private static void knock() {
        KnockFinder x = with("7a8b9c");
        due("17 tick", x.knock(2, 0), 24);
        due("17 strength", x.knock(2, 1), 3);
        due("17 gap", x.knock(2, 2), 9);
        due("17 first", x.knock(0, 2), -2);
        Checks.filters(x, "r1;y5");
        due("17 seen", x.knock(0, 0), 20);
        due("17 first seen", x.knock(0, 2), -2);
        due("17 behind", x.knock(2, 0), -1);
        due("17 k -1", x.knock(-1, 0), -1);
        due("17 what 3", x.knock(0, 3), -1);
        due("17 what -1", x.knock(0, -1), -1);
        KnockFinder y = new KnockFinder();
        Checks.trace(y, "((999a)9)9(999a)9(999a)9999a99a");
        Checks.filters(y, "y99;y99;y99;y99;y99;y99;y99;y99;y99;y99");
        due("17 later than the last tick of a trace", y.knock(100, 0), 99999 + 990);
    }

    private static void ratio() {
        KnockFinder x = new KnockFinder();
        x.bearing(9, 7, 33);
        x.turn(100);
        // 9 * 26 by 66, 9 * 40 by 66, 1040 by 231, 26 by 66, 1.
        int[][] want = {{39, 11, 2820}, {60, 11, 1833}, {1040, 231, 2221}, {13, 33, 25384}, {1, 1, 10000}};
        for (int kind = 0; kind < 5; kind++) {
            for (int what = 0; what < 3; what++) {
                due("18 ratio(" + kind + ", " + what + ")", x.ratio(kind, what), want[kind][what]);
            }
        }
        due("18 kind 5", x.ratio(5, 0), -1);
        due("18 kind -1", x.ratio(-1, 0), -1);
        due("18 what 3", x.ratio(0, 3), -1);
        due("18 what -1", x.ratio(0, -1), -1);
        Checks.speeds(x, "0:20");
        due("18 by the turn, not by speeds", x.ratio(4, 2), 10000);
    }

    private static void comb() {
        // Shaft, a turn of 240: marks at 10, 250, 490, 730, 970 (the last knock is at 990).
        KnockFinder x = with("10a225b10c5d250e240f250g");
        // Ticks 10, 235, 245, 250, 500, 740, 990.
        int[] want = {5, 5, 1000, 1 + 4 + 5 + 6 + 7, 990, 83};
        for (int what = 0; what < want.length; what++) {
            due("19 comb what " + what, x.comb(4, 0, what), want[what]);
        }
        due("20 nearest", x.hit(4, 0, 1), 3);
        x.drop(3);
        due("20 next nearest", x.hit(4, 0, 1), 2);
        due("19 off by 20 is off most", x.comb(4, 0, 5), 83);
        due("19 one mark", x.comb(4, 5, 1), 1);
        due("19 one hit", x.comb(4, 5, 0), 1);
        due("19 its score", x.comb(4, 5, 2), 1000);
        due("19 kind", x.comb(5, 0, 0), -1);
        due("19 kind -1", x.comb(-1, 0, 0), -1);
        due("19 k -1", x.comb(0, -1, 0), -1);
        due("19 k 6", x.comb(0, 6, 0), -1);
        due("19 what 6", x.comb(0, 0, 6), -1);
        due("19 what -1", x.comb(0, 0, -1), -1);
        // A mark from the second knock on is not behind the last knock, and knocks ahead of it don't count.
        KnockFinder y = with("100a100b240c");
        due("19 from the second", y.comb(4, 1, 0), 2);
        due("19 marks", y.comb(4, 1, 1), 2);
        due("19 from the first", y.comb(4, 0, 0), 1);
        due("19 marks of the first", y.comb(4, 0, 1), 2);
        due("19 score of the first", y.comb(4, 0, 2), 500);
    }

    private static void combSlip() {
        // A turn of 100: an angle of 10000 a tick; a slip of 100 is 10 ticks.
        KnockFinder x = new KnockFinder();
        x.turn(100);
        Checks.trace(x, "100a90b20c100d");
        // Ticks 100, 190, 210, 310: mark 200 has 190 and 210 alike far.
        due("20 of like ones the earlier", x.hit(4, 0, 1), 1);
        due("20 just within", x.hit(4, 0, 2), 3);
        due("19 off", x.comb(4, 0, 5), 100);
        x.set(0, 99);
        due("20 just without", x.hit(4, 0, 1), -2);
        due("20 just without", x.hit(4, 0, 2), -2);
        due("19 hits", x.comb(4, 0, 0), 1);
        due("19 score is cut", x.comb(4, 0, 2), 333);
        x.set(0, 0);
        due("19 slip 0", x.comb(4, 0, 0), 1);
        due("19 from 210", x.comb(4, 2, 0), 2);
    }

    private static void combDrift() {
        KnockFinder x = new KnockFinder();
        x.turn(100);
        x.set(0, 0);
        Checks.trace(x, "100a101b101c101d103e");
        // Ticks 100, 201, 302, 403, 506: off by 1, 2, 3, 6 ticks.
        due("19 without drift", x.comb(4, 0, 0), 1);
        x.set(1, 10);
        due("19 drift 10: 1, 2, 3, 4 ticks", x.comb(4, 0, 0), 4);
        due("20 too far", x.hit(4, 0, 4), -2);
        x.set(1, 15);
        due("19 drift 15: 6 ticks at mark 4", x.comb(4, 0, 0), 5);
        due("19 off", x.comb(4, 0, 5), 60);
        KnockFinder y = new KnockFinder();
        y.turn(100);
        y.set(1, 50);
        Checks.trace(y, "100a(100b)9149b150c");
        // Marks 0 to 9 are hit; marks 11 (1200) and 12 (1300): 1149 is off by 49 of mark 10 (1100).
        due("19 490 at most, within", y.hit(4, 0, 10), 10);
        y.drop(10);
        y.drop(10);
        Checks.trace(y, "150b150c");
        due("19 490 at most, without", y.hit(4, 0, 10), -2);
        due("19 490 at most, without", y.hit(4, 0, 11), -2);
    }

    private static void combOnSpeeds() {
        KnockFinder x = with("(80e)9");
        Checks.speeds(x, "400:480");
        due("19 by angles: hits", x.comb(0, 0, 0), 6);
        due("19 by angles: marks", x.comb(0, 0, 1), 6);
        due("19 by angles: last tick", x.comb(0, 0, 4), 560);
        due("20 by angles", x.hit(0, 0, 5), 6);
        // Angles are cut, so mark 6 at 2333333 is behind the last knock's 2333332.
        due("20 no mark behind the last angle", x.hit(0, 0, 6), -3);
    }

    private static void hit() {
        KnockFinder x = with("(80e)3160e");
        due("20 hit", x.hit(0, 0, 2), 2);
        due("20 none", x.hit(0, 0, 3), -2);
        due("20 hit", x.hit(0, 1, 3), 3);
        due("20 not so many", x.hit(0, 0, 5), -3);
        due("20 far", x.hit(0, 0, MAX), -3);
        due("20 m -1", x.hit(0, 0, -1), -1);
        due("20 kind", x.hit(5, 0, 0), -1);
        due("20 k", x.hit(0, 4, 0), -1);
        due("20 k -1", x.hit(0, -1, 0), -1);
    }

    private static void best() {
        KnockFinder x = new KnockFinder();
        due("21 no knocks", x.best(0, 0), -2);
        x.turn(80);
        Checks.trace(x, "80e");
        due("21 one knock", x.best(4, 0), -2);
        Checks.trace(x, "79e");
        due("21 one mark each", x.best(4, 0), -2);
        Checks.trace(x, "1a");
        // 80, 159, 160: from 80 marks 80 and 160.
        due("21 hits", x.best(4, 0), 2);
        due("21 marks", x.best(4, 1), 2);
        due("21 score", x.best(4, 2), 1000);
        due("21 strengths", x.best(4, 3), 6);
        due("21 last", x.best(4, 4), 160);
        due("21 off", x.best(4, 5), 0);
        due("21 knock", x.best(4, 6), 0);
        due("21 what 7", x.best(4, 7), -1);
        due("21 what -1", x.best(4, -1), -1);
        due("21 kind 5", x.best(5, 0), -1);
        // Shaft: 240, 480 and 240 + 100, 580, with 2 hits each; the second has fewer marks.
        KnockFinder y = with("240a100b140c100d140e");
        // Ticks 240, 340, 480, 580, 720: from 240 three hits.
        due("21 most hits", y.best(4, 6), 0);
        y.drop(4);
        // Ticks 240, 340, 480, 580: 2 of 2 from 240, 2 of 2 from 340.
        due("21 the earliest", y.best(4, 6), 0);
        KnockFinder z = with("240a240b300c240d");
        // Ticks 240, 480, 780, 1020: from 240 2 of 4, from 480 1 of 3, from 780 2 of 2.
        due("21 the higher score", z.best(4, 6), 2);
        due("21 its score", z.best(4, 2), 1000);
    }

    private static void side() {
        KnockFinder x = with("(80e)9");
        // Outer 3: by 0 a period of 80; by -1 (2) 120; by 3 (6) 40; by -3 none.
        due("22 itself", x.side(0, 0), 9);
        due("22 by 3", x.side(0, 3), 9);
        due("22 by -1", x.side(0, -1), 3);
        due("22 not above 0", x.side(0, -3), -2);
        due("22 cage 3/8 - 1", x.side(3, -1), -2);
        // Cage 11/8: a period of 174.5; from 80 on 254.5 has 240.
        due("22 cage 11/8", x.side(3, 1), 2);
        due("22 by 4", x.side(0, 4), -1);
        due("22 by -4", x.side(0, -4), -1);
        due("22 kind", x.side(5, 0), -1);
        KnockFinder y = with("80e");
        due("22 no comb", y.side(0, 0), -2);
    }

    private static void shared() {
        KnockFinder x = with("(80e)9");
        // Outer has all; inner from 240: 240, 480, 720; shaft from 80: 80, 320, 560.
        due("23 outer, inner", x.shared(0, 1), 3);
        due("23 inner, outer", x.shared(1, 0), 3);
        due("23 inner, shaft", x.shared(1, 4), 0);
        due("23 the same", x.shared(0, 0), 9);
        due("23 kind", x.shared(0, 5), -1);
        due("23 kind", x.shared(-1, 0), -1);
        KnockFinder y = with("80e80e");
        due("23 cage has none", y.shared(0, 3), -2);
        due("23 cage has none", y.shared(3, 0), -2);
        due("23 wrong comes first", y.shared(3, 5), -1);
    }

    private static void both() {
        KnockFinder x = with("(80e)9");
        due("24 most", x.both(0, 1, 0), 9);
        due("24 earliest", x.both(0, 1, 1), 0);
        due("24 earliest", x.both(0, 1, 2), 0);
        // Shaft combs have three each: of 80, 160, 240 on.
        due("24 shaft and inner", x.both(4, 1, 0), 6);
        due("24 shaft from", x.both(4, 1, 1), 0);
        due("24 inner from", x.both(4, 1, 2), 1);
        due("24 inner and shaft", x.both(1, 4, 1), 0);
        due("24 inner and shaft", x.both(1, 4, 2), 1);
        due("24 same", x.both(1, 1, 0), -1);
        due("24 what", x.both(0, 1, 3), -1);
        due("24 what", x.both(0, 1, -1), -1);
        due("24 kind", x.both(0, 5, 0), -1);
        due("24 kind", x.both(-1, 0, 0), -1);
        KnockFinder y = with("80e80e");
        due("24 one has none", y.both(0, 3, 0), -2);
        due("24 one has none", y.both(3, 0, 1), -2);
        due("24 wrong comes first", y.both(3, 3, 1), -1);
        KnockFinder z = with("(((20a)9)7)3");
        // 189 knocks, 20 ticks apart: each fourth is the outer ring's, each twelfth of others the shaft's.
        due("24 bits of all knocks", z.both(0, 4, 0), 48 + 16);
        due("24 from", z.both(0, 4, 1), 0);
        due("24 from", z.both(0, 4, 2), 1);
    }

    private static void window() {
        KnockFinder x = with("(80e)9");
        // Ticks 80 to 720: 641 wide. Of two: up to 80 + 320 (320 * 2 by 641 is 0), from 480 on.
        due("25 how many", x.window(0, 2, 0, 2), 5);
        due("25 how many", x.window(1, 2, 0, 2), 4);
        // As angles are cut, the fifth mark from 80 on is just behind the angle of 400.
        due("25 hits", x.window(0, 2, 0, 0), 4);
        due("25 score", x.window(0, 2, 0, 1), 1000);
        due("25 hits of the second", x.window(1, 2, 0, 0), 4);
        due("25 all", x.window(0, 1, 0, 0), 9);
        due("25 eighths", x.window(7, 8, 0, 2), 1);
        due("25 no comb", x.window(7, 8, 0, 0), -2);
        due("25 no comb", x.window(7, 8, 0, 1), -2);
        due("25 i 2", x.window(2, 2, 0, 0), -1);
        due("25 i -1", x.window(-1, 2, 0, 0), -1);
        due("25 w 0", x.window(0, 0, 0, 0), -1);
        due("25 w 9", x.window(0, 9, 0, 0), -1);
        due("25 kind", x.window(0, 1, 5, 0), -1);
        due("25 kind comes first", x.window(0, 1, 5, 2), -1);
        due("25 what", x.window(0, 1, 0, 3), -1);
        KnockFinder y = new KnockFinder();
        due("25 no knocks", y.window(0, 1, 0, 2), -2);
        Checks.trace(y, "5a5a500a");
        due("25 an empty window", y.window(3, 8, 0, 2), 0);
        due("25 an empty window has no comb", y.window(3, 8, 0, 0), -2);
    }

    private static void report() {
        KnockFinder x = with("(80e)9");
        C.isTrue("26 " + Checks.report(x, 0), Checks.report(x, 0).equals("outer 9/9 100.0%"));
        due("26 length", x.report(0, -1), 16);
        due("26 first byte", x.report(0, 0), 'o');
        due("26 behind the last", x.report(0, 16), -4);
        due("26 far", x.report(0, MAX), -4);
        due("26 not so many", x.report(1, 0), -2);
        due("26 not so many", x.report(MAX, -1), -2);
        due("26 i -1", x.report(-1, 0), -1);
        due("26 k -2", x.report(0, -2), -1);
        due("26 none comes first", x.report(9, -2), -1);
        // Shaft alone, 6 of 7.
        KnockFinder y = with("240a240a240a480a240a240a");
        Checks.filters(y, "x99");
        C.isTrue("26 of like hits the higher score: " + Checks.report(y, 0),
            Checks.report(y, 0).equals("shaft 6/7 85.7%"));
        KnockFinder z = with("48a48a48a48a48a");
        C.isTrue("26 " + Checks.report(z, 0), Checks.report(z, 0).equals("inner 5/5 100.0%"));
        KnockFinder b = with("64a64a64a64a64a");
        C.isTrue("26 " + Checks.report(b, 0), Checks.report(b, 0).equals("ball 5/5 100.0%"));
        KnockFinder c = with("640a640a640a640a640a");
        c.bearing(3, 1, 2);
        c.turn(160);
        // Cage 1 by 4, outer 3 by 4, inner 9 by 4, ball 3 by 2.
        C.isTrue("26 " + Checks.report(c, 0), Checks.report(c, 0).equals("cage 5/5 100.0%"));
        c.set(3, 5);
        c.set(4, 0);
        Checks.trace(c, "(640a)9(640a)9(640a)9(640a)9(640a)9(640a)9");
        C.isTrue("26 " + Checks.report(c, 0), Checks.report(c, 0).equals("cage 59/59 100.0%"));
        c.set(0, 0);
        Checks.trace(c, "160a640a640a");
        C.isTrue("26 " + Checks.report(c, 0), Checks.report(c, 0).equals("shaft 62/242 25.6%"));
    }

    private static void chain() {
        // Shaft: a turn of 100, slip 10 ticks, a miss of one.
        KnockFinder x = new KnockFinder();
        x.turn(100);
        Checks.trace(x, "100a110b90c220d221e109f");
        // Ticks 100, 210, 300, 520, 741, 850.
        // From 100: 210 (10 off), 300 (10 off), 520 (g 2, 20 off), not 741 (g 2, 21 off).
        due("27 how many", x.chain(4, 0, 0), 4);
        due("27 last", x.chain(4, 0, 1), 3);
        due("27 periods", x.chain(4, 0, 2), 4);
        due("27 from 741", x.chain(4, 4, 0), 2);
        due("27 from the last", x.chain(4, 5, 0), 1);
        due("27 the last itself", x.chain(4, 5, 1), 5);
        due("27 no periods", x.chain(4, 5, 2), 0);
        x.set(2, 0);
        due("27 miss 0", x.chain(4, 0, 0), 3);
        x.set(2, 5);
        // From 520: g 3 to 6 are no nearer than 741 at 220, 850 at 330: g 3 is 820, 30 off: it goes on.
        due("27 miss 5", x.chain(4, 0, 0), 5);
        due("27 miss 5 last", x.chain(4, 0, 1), 5);
        due("27 miss 5 periods", x.chain(4, 0, 2), 7);
        due("27 kind", x.chain(5, 0, 0), -1);
        due("27 k", x.chain(0, 6, 0), -1);
        due("27 k -1", x.chain(0, -1, 0), -1);
        due("27 what 3", x.chain(0, 0, 3), -1);
        due("27 what -1", x.chain(0, 0, -1), -1);
        KnockFinder y = new KnockFinder();
        y.turn(100);
        Checks.trace(y, "100a95b10c");
        due("27 of like ones the earlier", y.chain(4, 0, 1), 1);
        y.set(0, 490);
        y.set(2, 1);
        Checks.trace(y, "100d");
        // Ticks 100, 195, 205, 305: from 195 at g 1 (295) 305 is 10 off.
        due("27 goes on", y.chain(4, 0, 1), 3);
        KnockFinder z = new KnockFinder();
        z.turn(100);
        z.set(0, 490);
        z.set(2, 5);
        Checks.trace(z, "100a149b");
        due("27 490 within", z.chain(4, 0, 0), 2);
        z.drop(1);
        Checks.trace(z, "150b");
        due("27 490 at most", z.chain(4, 0, 0), 1);
    }

    private static void longest() {
        KnockFinder x = new KnockFinder();
        due("28 no knocks", x.longest(0, 0), -2);
        due("28 wrong comes first", x.longest(5, 0), -1);
        x.turn(100);
        Checks.trace(x, "10a30b100c100d60e40f60g40h");
        // Ticks 10, 40, 140, 240, 300, 340, 400, 440: from 40 five: 40, 140, 240, 340, 440.
        due("28 knock", x.longest(4, 3), 1);
        due("28 how many", x.longest(4, 0), 5);
        due("28 last", x.longest(4, 1), 7);
        due("28 periods", x.longest(4, 2), 4);
        due("28 what 4", x.longest(4, 4), -1);
        due("28 what -1", x.longest(4, -1), -1);
        due("28 kind -1", x.longest(-1, 0), -1);
        KnockFinder y = with("5a30b500c");
        due("28 the earliest", y.longest(0, 3), 0);
        due("28 alone", y.longest(0, 0), 1);
    }

    private static void folded() {
        KnockFinder x = with("(80e)9");
        // Outer hits by the shaft's period of 240: places 0, 1/3, 2/3, ..: eighths 0, 2, 5.
        int[] want = {15, 0, 15, 0, 0, 15, 0, 0, 333};
        for (int eighth = 0; eighth <= 8; eighth++) {
            due("29 folded(0, 4, " + eighth + ")", x.folded(0, 4, eighth), want[eighth]);
        }
        due("29 by itself: cut angles fall behind a little", x.folded(0, 0, 0) + x.folded(0, 0, 7), 45);
        due("29 eighth 9", x.folded(0, 0, 9), -1);
        due("29 eighth -1", x.folded(0, 0, -1), -1);
        due("29 kind", x.folded(5, 0, 0), -1);
        due("29 by", x.folded(0, 5, 0), -1);
        KnockFinder y = with("80e");
        due("29 no comb", y.folded(0, 4, 0), -2);
        due("29 no comb", y.folded(0, 4, 8), -2);
        KnockFinder z = new KnockFinder();
        z.turn(800);
        Checks.trace(z, "(800a100b)4");
        // Ticks 800, 900, 1700, 1800, 2600, 2700, 3500, 3600; 800 from one another: 900 and 1700, 1800 and 2600,
        // 2700 and 3500, of which the last two have the highest score.
        z.set(0, 0);
        due("29 hits", z.best(4, 0), 2);
        due("29 from", z.best(4, 6), 5);
        due("29 both at 0", z.folded(4, 4, 0), 3);
        due("29 depth of one", z.folded(4, 4, 8), 1000);
        z.bearing(3, 1, 2);
        // Inner 9 by 4: a period of 355.5 ticks; 800 is 2.25 periods.
        due("29 at a quarter", z.folded(4, 1, 2), 1);
        due("29 at 0", z.folded(4, 1, 0), 2);
        due("29 depth", z.folded(4, 1, 8), 666);
    }

    private static void ranked() {
        KnockFinder x = with("(80e)9");
        // Hits 9, 3 (272), 3, 2, 3 (1000).
        due("30 first", x.ranked(0), 0);
        due("30 higher score", x.ranked(1), 4);
        due("30 last", x.ranked(4), 3);
        due("30 ball or inner", x.ranked(2) + x.ranked(3), 3);
        due("30 i 5", x.ranked(5), -1);
        due("30 i -1", x.ranked(-1), -1);
        KnockFinder y = with("80e200e");
        // 200 ticks: no cage (640), no shaft (240): they come last.
        due("30 without", y.ranked(3), 3);
        due("30 without", y.ranked(4), 4);
        KnockFinder z = new KnockFinder();
        for (int i = 0; i < 5; i++) {
            due("30 none has any", z.ranked(i), i);
        }
    }

    private static void faults() {
        KnockFinder x = with("(80e)9");
        due("31 how many", x.faults(0), 1);
        due("31 left", x.faults(1), 0);
        due("31 what 2", x.faults(2), -1);
        due("31 what -1", x.faults(-1), -1);
        int[] want = {0, 9, 9, 1000, 80, 45};
        for (int what = 0; what < 6; what++) {
            due("32 what " + what, x.fault(0, what), want[what]);
        }
        due("32 what 6", x.fault(0, 6), -1);
        due("32 what -1", x.fault(0, -1), -1);
        due("32 i 1", x.fault(1, 0), -2);
        due("32 i -1", x.fault(-1, 0), -1);
        due("32 wrong comes first", x.fault(1, 6), -1);
        x.set(3, 10);
        due("31 least hits", x.faults(0), 0);
        due("31 all left", x.faults(1), 9);
        x.set(3, 9);
        due("31 just enough", x.faults(0), 1);
        // Outer each 80 from 100 on, shaft each 240 from 130 on: the shaft is found in what is left.
        KnockFinder y = with("100b30z50b(80b)230z50b(80b)230z50b(80b)230z50b");
        y.set(0, 20);
        due("31 two", y.faults(0), 2);
        due("31 none left", y.faults(1), 0);
        due("32 first", y.fault(0, 0), 0);
        due("32 first hits", y.fault(0, 1), 11);
        due("32 second", y.fault(1, 0), 4);
        due("32 second hits", y.fault(1, 1), 4);
        due("32 second from", y.fault(1, 4), 130);
        due("32 second strengths", y.fault(1, 5), 104);
        y.set(4, 1000);
        due("31 least score just met", y.faults(0), 2);
        y.drop(4);
        // The outer comb has 10 of 11 now: not enough, and the search ends, though the shaft has 4 of 4.
        due("31 the first one is not enough", y.faults(0), 0);
        due("31 all left", y.faults(1), 14);
    }

    private static void apart() {
        KnockFinder x = new KnockFinder();
        due("33 same", x.apart(1, 1), -1);
        due("33 kind", x.apart(0, 5), -1);
        due("33 kind", x.apart(-1, 0), -1);
        // Outer 3 and inner 5: off by 1/15; slips together 8/15 thousandths times slip: 125 is just met.
        x.set(0, 124);
        due("33 farther", x.apart(0, 1), 1);
        x.set(0, 125);
        due("33 as far", x.apart(0, 1), -2);
        due("33 as far", x.apart(1, 0), -2);
        x.set(0, 0);
        due("33 slip 0", x.apart(0, 1), 1);
        due("33 shaft on outer's marks", x.apart(4, 0), -2);
        due("33 cage on inner's marks: 8/3", x.apart(3, 1), 1);
        x.bearing(20, 1, 999);
        // Outer 20 * 998 by 1998, shaft 1: 0.0099.. turns a mark: slip 1: 0.0011.
        due("33 grows with marks", x.apart(0, 4), 1);
        x.set(0, 10);
        // Shaft marks at m: off by m times 20/1998 of the outer's period; slips 0.01 and 0.001001 turns: m above 10.98..
        due("33 later marks", x.apart(0, 4), 11);
        x.bearing(3, 10, 101);
        x.set(0, 36);
        due("33 mark 400", x.apart(2, 4), 400);
        x.bearing(3, 26, 135);
        x.set(0, 19);
        due("33 mark 401 is too far", x.apart(2, 4), -2);
    }

    private static void lag() {
        KnockFinder x = with("(80e)9");
        due("34 lag 80", x.lag(80, 0), 8);
        due("34 lag 640", x.lag(640, 0), 1);
        due("34 lag 641", x.lag(641, 0), 0);
        due("34 within 1", x.lag(641, 1), 1);
        due("34 within 80", x.lag(160, 80), 8 + 7 + 6);
        due("34 within 79", x.lag(160, 79), 7);
        due("34 more than the lag", x.lag(1, 99), 8);
        due("34 l 0", x.lag(0, 0), -1);
        due("34 l 10000", x.lag(10000, 0), -1);
        due("34 l 9999", x.lag(9999, 99), 0);
        due("34 t -1", x.lag(80, -1), -1);
        due("34 t 100", x.lag(80, 100), -1);
        due("34 MIN", x.lag(MIN, MIN), -1);
    }

    private static void lags() {
        KnockFinder x = with("(80e)9");
        due("35 which", x.lags(1, 500, 0, 0), 80);
        due("35 how many", x.lags(1, 500, 0, 1), 8);
        due("35 the least", x.lags(1, 500, 5, 0), 75);
        due("35 from 81 on", x.lags(81, 580, 0, 0), 160);
        due("35 none", x.lags(9500, 9999, 99, 0), 9500);
        due("35 none", x.lags(9500, 9999, 99, 1), 0);
        due("35 one lag", x.lags(160, 160, 99, 1), 21);
        due("35 501", x.lags(1, 501, 0, 0), -1);
        due("35 high", x.lags(9900, 10000, 0, 0), -1);
        due("35 low", x.lags(0, 10, 0, 0), -1);
        due("35 turned", x.lags(10, 9, 0, 0), -1);
        due("35 t", x.lags(1, 9, 100, 0), -1);
        due("35 what 2", x.lags(1, 9, 0, 2), -1);
        due("35 what -1", x.lags(1, 9, 0, -1), -1);
        due("35 far", x.lags(MIN, MAX, 0, 0), -1);
        KnockFinder y = with("((999z)9)5");
        due("35 far lags", y.lags(9500, 9999, 0, 0), 9990);
        due("35 how many", y.lags(9500, 9999, 0, 1), 35);
        due("35 with all of t", y.lags(9500, 9999, 99, 0), 9891);
        KnockFinder z = with("1a(999b)9999b108c");
        Checks.filters(z, "k11");
        due("35 one pair, at the very end", z.lags(9500, 9999, 99, 0), 9999);
        due("35 one pair, at the very end", z.lags(9500, 9999, 99, 1), 1);
        due("35 not farther", z.lags(9500, 9999, 98, 1), 0);
    }

    private static void nearest() {
        KnockFinder x = new KnockFinder();
        // Periods 80, 48, 64, 640, 240.
        Object[][] all = {{80, 0, 1, 0}, {48, 1, 1, 0}, {240, 0, 3, 0}, {192, 1, 4, 0}, {128, 2, 2, 0}, {640, 3, 1, 0},
            {56, 1, 1, 800}, {1, 1, 1, 4700}, {9999, 3, 4, 743900}, {72, 0, 1, 800}, {88, 0, 1, 800}, {480, 4, 2, 0}};
        for (Object[] one : all) {
            for (int what = 0; what < 3; what++) {
                due("36 nearest(" + one[0] + ", " + what + ")", x.nearest((int) one[0], what), (int) one[1 + what]);
            }
        }
        due("36 l 0", x.nearest(0, 0), -1);
        due("36 l 10000", x.nearest(10000, 0), -1);
        due("36 what 3", x.nearest(80, 3), -1);
        due("36 what -1", x.nearest(80, -1), -1);
        x.turn(100);
        // Outer 33.33..: 34 is 0.66.. off.
        due("36 cut", x.nearest(34, 2), 66);
        Checks.speeds(x, "0:20");
        due("36 by the turn", x.nearest(34, 2), 66);
    }

    private static void tried() {
        KnockFinder x = with("(80e)9");
        due("37 as it is", x.tried(8, 10, 40, 0, 0), 0);
        due("37 hits", x.tried(8, 10, 40, 0, 1), 9);
        due("37 faults", x.tried(8, 10, 40, 0, 2), 1);
        // 240 by 80 ticks: the shaft knocks each 80.
        due("37 another turn", x.tried(9, 10, 40, 80, 0), 4);
        due("37 its hits", x.tried(9, 10, 40, 80, 1), 9);
        due("37 all stays", x.get(8), 240);
        due("37 all stays", x.get(5), 8);
        due("37 no act", x.get(13), 1);
        due("37 best as before", x.best(0, 0), 9);
        due("37 turn 19", x.tried(8, 10, 40, 19, 0), -1);
        due("37 turn 5001", x.tried(8, 10, 40, 5001, 0), -1);
        due("37 turn -1", x.tried(8, 10, 40, -1, 0), -1);
        due("37 ball", x.tried(8, 40, 40, 0, 0), -1);
        due("37 what 3", x.tried(8, 10, 40, 0, 3), -1);
        due("37 what -1", x.tried(8, 10, 40, 0, -1), -1);
        x.turn(480);
        due("37 turn 0 is the one there is", x.tried(8, 10, 40, 0, 1), x.best(x.ranked(0), 0));
        KnockFinder y = with("80e");
        due("37 no combs", y.tried(8, 10, 40, 0, 0), 0);
        due("37 no hits", y.tried(8, 10, 40, 0, 1), 0);
    }

    private static void bestTurn() {
        KnockFinder x = with("(80e)9");
        x.set(0, 0);
        due("38 turn", x.bestTurn(0, 200, 300, 0), 240);
        due("38 hits, each third on a whole turn", x.bestTurn(0, 200, 300, 1), 3);
        x.set(0, 10);
        due("38 turn", x.bestTurn(0, 239, 241, 0), 240);
        due("38 hits", x.bestTurn(0, 239, 241, 1), 9);
        x.set(0, 490);
        due("38 200 turns", x.bestTurn(4, 4801, 5000, 0), -2);
        due("38 no comb", x.bestTurn(4, 4801, 5000, 1), -2);
        due("38 201 turns", x.bestTurn(4, 4800, 5000, 1), -1);
        due("38 one turn", x.bestTurn(4, 80, 80, 1), 9);
        due("38 19", x.bestTurn(4, 19, 80, 1), -1);
        due("38 5001", x.bestTurn(4, 4999, 5001, 1), -1);
        due("38 turned", x.bestTurn(4, 81, 80, 1), -1);
        due("38 what 2", x.bestTurn(4, 80, 80, 2), -1);
        due("38 what -1", x.bestTurn(4, 80, 80, -1), -1);
        due("38 kind", x.bestTurn(5, 80, 80, 0), -1);
        due("38 turn stays", x.get(8), 240);
        due("38 no act", x.get(13), 4);
        Checks.speeds(x, "0:80");
        due("38 the least turn", x.bestTurn(4, 100, 120, 0), 100);
        due("38 hits by speeds", x.bestTurn(4, 100, 120, 1), 9);
        KnockFinder y = new KnockFinder();
        due("38 no knocks", y.bestTurn(0, 20, 20, 0), -2);
    }

    private static void check() {
        KnockFinder x = with("(80e)9");
        int[] scores = new int[5];
        for (int kind = 0; kind < 5; kind++) {
            scores[kind] = x.best(kind, 2) / 10;
        }
        due("39 outer", scores[0], 100);
        due("39 inner", scores[1], 27);
        put(x, scores);
        due("39 right", x.check(5), -1);
        due("39 empty", x.get(12), 0);
        for (int kind = 0; kind < 5; kind++) {
            int[] wrong = scores.clone();
            wrong[kind]++;
            put(x, wrong);
            due("39 the first that is not so", x.check(5), kind);
            put(x, wrong);
            due("39 not looked at", x.check(kind), -1);
        }
        put(x, scores);
        due("39 n 6", x.check(6), -2);
        due("39 n -1", x.check(-1), -2);
        due("39 the tape stays", x.get(12), 20);
        due("39 n 0", x.check(0), -1);
        due("39 empty then", x.get(12), 0);
        due("39 not so many", x.check(1), -2);
        due("39 no act", x.get(13), 1);
        KnockFinder y = with("80e");
        put(y, new int[] {255, 255, 255, 255, 255});
        due("39 none", y.check(5), -1);
        put(y, new int[] {255, 0, 255, 255, 255});
        due("39 none is not 0", y.check(5), 1);
    }

    /** All rows are full: 200 knocks, a turn apart. */
    private static void manyKnocks() {
        KnockFinder x = turning(20, "(((20a)8)5)5");
        due("19 hits", x.comb(4, 0, 0), 200);
        due("20 last", x.hit(4, 0, 199), 199);
        due("21 knock", x.best(4, 6), 0);
        due("23 all", x.shared(4, 4), 200);
        due("24 all", x.both(4, 3, 0), 200);
        due("24 all", x.both(3, 4, 0), 200);
        due("25 all", x.window(0, 1, 4, 0), 200);
        due("25 an eighth", x.window(7, 8, 4, 2), 25);
        due("27 all", x.chain(4, 0, 0), 200);
        due("28 last", x.longest(4, 1), 199);
        due("29 all", x.folded(4, 4, 0), 200);
        due("31 left", x.faults(1), 0);
        due("34 next ones", x.lag(20, 0), 199);
        due("10 drop", x.drop(199), 199);
        due("10 drop", x.drop(0), 198);
        due("19 hits", x.comb(4, 0, 0), 198);
    }

    private static void put(KnockFinder x, int[] bytes) {
        x.feed(bytes[0] << 24 | bytes[1] << 16 | bytes[2] << 8 | bytes[3], bytes[4] << 24, 0, 0, 0);
    }
}
