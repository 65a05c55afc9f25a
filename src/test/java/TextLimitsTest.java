/** Limits of the texts on the tape, sentence by sentence: the last thing that is taken, and the first that is not. */
public final class TextLimitsTest {
    private static final Checks C = new Checks();

    public static void main(String[] args) {
        tapeIsFull();
        tapeInOrder();
        tapeIsEmptyThen();
        speedsLength();
        speedsMany();
        speedsTicks();
        speedsTurns();
        speedsSigns();
        speedsFromThatTickOn();
        traceLength();
        traceGaps();
        traceLetters();
        traceRounds();
        traceOpen();
        traceFaultsOfOnePlace();
        traceMany();
        traceTicks();
        traceAllOrNone();
        filtersLength();
        filtersMany();
        filtersNumbers();
        filtersLetters();
        filtersOfStrength();
        filtersOfTicks();
        filtersOfPlace();
        filtersInOrder();
        checkBytes();
        C.end();
    }

    private static void due(String call, long got, long want) {
        C.due(call, got, want);
    }

    private static String times(String text, int many) {
        return text.repeat(many);
    }

    private static KnockFinder with(String trace) {
        KnockFinder x = new KnockFinder();
        C.isTrue("trace " + trace, Checks.trace(x, trace) >= 0);
        return x;
    }

    /** "how many it has; NONE if that would be more than 240" */
    private static void tapeIsFull() {
        KnockFinder x = new KnockFinder();
        for (int i = 1; i <= 12; i++) {
            due("feed " + i, x.feed(i, i, i, i, i), 20 * i);
        }
        due("feed 13", x.feed(0, 0, 0, 0, 0), -1);
        due("bytes", x.get(12), 240);
        due("trace(200) of a full tape", x.trace(200), Checks.fault(1, 0));
        due("behind it there is room again", x.feed(0, 0, 0, 0, 0), 20);
    }

    /** "Twenty bytes come behind the tape, the highest of each int first" */
    private static void tapeInOrder() {
        KnockFinder x = new KnockFinder();
        x.feed(0x31613262, 0x33633464, 0x35653666, 0x37673868, 0x3969316a);
        due("1a2b .. 9i1j", x.trace(20), 10);
        int[] ticks = {1, 3, 6, 10, 15, 21, 28, 36, 45, 46};
        for (int k = 0; k < 10; k++) {
            due("tick " + k, x.knock(k, 0), ticks[k]);
            due("strength " + k, x.knock(k, 1), k + 1);
        }
        KnockFinder y = new KnockFinder();
        y.feed(0x31613262, 0x33633464, 0x35653666, 0x37673868, 0x3969316a);
        y.feed(0x32623262, 0, 0, 0, 0);
        due("two feeds, one behind the other", y.trace(24), 12);
        due("the last one", y.knock(11, 0), 50);
        KnockFinder z = with("80e");
        z.feed(0xffffffff, 0xff000000, 0, 0, 0);
        due("bytes are 0 to 255", z.check(5), -1);
    }

    /** "by the first n bytes of the tape (..; empty then ..)" */
    private static void tapeIsEmptyThen() {
        KnockFinder x = new KnockFinder();
        String[] texts = {"5:20", "5a", "a1", "????"};
        for (int i = 0; i < 4; i++) {
            Checks.feed(x, texts[i] + times(" ", 30));
            due("two feeds", x.get(12), 40);
            due("read", i == 0 ? x.speeds(4) : i == 1 ? x.trace(2) : i == 2 ? x.filters(2) : x.check(4), i == 3 ? 0 : 1);
            due("the rest goes, too", x.get(12), 0);
            due("nothing to read", x.speeds(1), -1);
            due("nothing to read", x.trace(1), -1);
            due("nothing to read", x.filters(1), -1);
            due("nothing to read", x.check(1), -2);
            due("the next feed is the first", x.feed(0, 0, 0, 0, 0), 20);
            x.check(0);
            due("empty by n 0", x.get(12), 0);
        }
    }

    /** "SPEEDS: a TEXT of at most 100 bytes"; "by the first n bytes of the tape (0 to 100; ..; 0: none)" */
    private static void speedsLength() {
        String hundred = "00001:0020;0002:0020;0003:0020;0004:0020;0005:0020;0006:0020;0007:0020;0008:0020;0009:0020;0010:0021";
        due("its length", hundred.length(), 100);
        KnockFinder x = new KnockFinder();
        due("100 bytes", Checks.speeds(x, hundred), 10);
        due("the last turn is read to its end", x.angle(31) - x.angle(10), 1000000);
        String more = hundred.replace(";0002", ";00002");
        due("101 bytes", Checks.speeds(x, more), -1);
        due("the tape stays", x.get(12), 120);
        due("the spans stay", x.get(14), 10);
        due("less of it", x.speeds(10), 1);
        due("0: none", x.speeds(0), 0);
        due("no spans", x.get(14), 0);
        Checks.feed(x, "1:20");
        due("a byte more than there is", x.speeds(21), -1);
        due("all of it", x.speeds(20), Checks.fault(1, 4));
    }

    /** "10 at most"; "4 an 11th SPAN, where it begins (whatever stands there)" */
    private static void speedsMany() {
        String nine = "1:20;2:20;3:20;4:20;5:20;6:20;7:20;8:20;9:20";
        String ten = nine + ";10:20";
        KnockFinder x = new KnockFinder();
        due("nine", Checks.speeds(x, nine), 9);
        due("ten", Checks.speeds(x, ten), 10);
        int at = ten.length() + 1;
        for (String eleventh : new String[] {"11:20", "1", "11:19", "111111", ":", ";", "x", "", " "}) {
            due("ten and " + eleventh, Checks.speeds(x, ten + ";" + eleventh), Checks.fault(4, at));
        }
        due("nine and a ; alone", Checks.speeds(x, nine + ";"), Checks.fault(1, nine.length() + 1));
        due("a wrong sign behind ten", Checks.speeds(x, ten + ":"), Checks.fault(1, at - 1));
        due("a fault ahead of the 11th", Checks.speeds(x, ten.replace("9:20", "9:19") + ";11:20"), Checks.fault(3, 42));
        due("ten stay", x.get(14), 10);
    }

    /** "a tick (one to five digits, above that of the SPAN ahead)"; "2 a digit too many", "3 .. asked when it ends" */
    private static void speedsTicks() {
        Object[][] all = {
            {"0:20", 1}, {"00000:20", 1}, {"99999:20", 1}, {"099999:20", Checks.fault(2, 5)}, {"100000:20", Checks.fault(2, 5)},
            {":20", Checks.fault(1, 0)}, {"7:20;8:20", 2}, {"7:20;00008:20", 2}, {"7:20;7:20", Checks.fault(3, 5)},
            {"7:20;6:20", Checks.fault(3, 5)}, {"7:20;07:20", Checks.fault(3, 5)}, {"0:20;0:20", Checks.fault(3, 5)},
            {"0:20;1:20", 2}, {"99998:20;99999:20", 2}, {"99999:20;99999:20", Checks.fault(3, 9)},
            {"9:20;10:20", 2}, {"10:20;9:20", Checks.fault(3, 6)}, {"1:20;3:20;2:20", Checks.fault(3, 10)},
            {"7:20;6", Checks.fault(3, 5)}, {"7:20;6x", Checks.fault(3, 5)}, {"7:20;6:x", Checks.fault(3, 5)},
            {"7:20;000006", Checks.fault(2, 10)}, {"7:20;777777:20", Checks.fault(2, 10)}, {"7:20;00006", Checks.fault(3, 5)},
            {"7:20;8", Checks.fault(1, 6)}, {"7:20;", Checks.fault(1, 5)}, {"7:20;:20", Checks.fault(1, 5)},
        };
        for (Object[] one : all) {
            due("speeds " + one[0], Checks.speeds(new KnockFinder(), (String) one[0]), (int) one[1]);
        }
    }

    /** "ticks of a TURN (one to four digits, 20 to 5000)" */
    private static void speedsTurns() {
        Object[][] all = {
            {"0:20", 1}, {"0:020", 1}, {"0:0020", 1}, {"0:5000", 1}, {"0:4999", 1}, {"0:21", 1},
            {"0:19", Checks.fault(3, 2)}, {"0:0019", Checks.fault(3, 2)}, {"0:5001", Checks.fault(3, 2)},
            {"0:9999", Checks.fault(3, 2)}, {"0:0", Checks.fault(3, 2)}, {"0:2", Checks.fault(3, 2)},
            {"0:00020", Checks.fault(2, 6)}, {"0:20000", Checks.fault(2, 6)}, {"0:00000", Checks.fault(2, 6)},
            {"0:", Checks.fault(1, 2)}, {"0:;", Checks.fault(1, 2)}, {"0:19;", Checks.fault(3, 2)}, {"0:19:", Checks.fault(3, 2)},
            {"0:5000;1:5001", Checks.fault(3, 9)}, {"0:5000;1:19", Checks.fault(3, 9)}, {"0:5000;0:19", Checks.fault(3, 7)},
        };
        for (Object[] one : all) {
            due("speeds " + one[0], Checks.speeds(new KnockFinder(), (String) one[0]), (int) one[1]);
        }
    }

    /** "FAULTS 1 likewise": signs next to those that can stand there, and the end. */
    private static void speedsSigns() {
        Object[][] all = {
            {"/:20", 0}, {"::20", 0}, {";", 0}, {" 0:20", 0}, {"0/20", 1}, {"0;20", 1}, {"0 :20", 1}, {"0", 1},
            {"0:/0", 2}, {"0::0", 2}, {"0:20:", 4}, {"0:20<1:20", 4}, {"0:20 ", 4}, {"0:20,1:20", 4}, {"0:20;;", 5},
            {"0:20;/:20", 5}, {"0:20; 1:20", 5},
        };
        for (Object[] one : all) {
            due("speeds " + one[0], Checks.speeds(new KnockFinder(), (String) one[0]), Checks.fault(1, (int) one[1]));
        }
    }

    /** "from that tick on a TURN takes so many ticks (ahead of the first SPAN: TURN)" */
    private static void speedsFromThatTickOn() {
        KnockFinder x = new KnockFinder();
        x.turn(100);
        Checks.speeds(x, "10:50;20:25;99998:20");
        long[][] all = {{0, 0}, {9, 90000}, {10, 100000}, {11, 120000}, {19, 280000}, {20, 300000}, {21, 340000},
            {99998, 300000 + 99978L * 40000}, {99999, 350000 + 99978L * 40000}};
        for (long[] one : all) {
            due("angle(" + one[0] + ")", x.angle((int) one[0]), one[1]);
        }
        Checks.speeds(x, "99999:20");
        due("a span from the last tick on", x.angle(99999), 999990000);
        Checks.speeds(x, "0:20");
        x.turn(5000);
        due("a span from tick 0 on leaves nothing to the turn", x.angle(20), 1000000);
    }

    /** "A TRACE: a TEXT of at most 200 bytes"; "by the first n bytes of the tape (1 to 200; empty then)" */
    private static void traceLength() {
        KnockFinder x = new KnockFinder();
        due("200 bytes", Checks.trace(x, times("001b", 50)), 50);
        due("the last one is read", x.knock(49, 0), 50);
        due("201 bytes", Checks.trace(x, times("001b", 49) + "1b1b1"), -1);
        due("the tape stays", x.get(12), 220);
        due("all but one of these", x.trace(200), 50 + 51);
        due("one byte", Checks.trace(x, "1"), Checks.fault(1, 1));
        Checks.feed(x, "1b");
        due("no byte", x.trace(0), -1);
        due("a byte more than there is", x.trace(21), -1);
        due("the tape stays", x.get(12), 20);
        due("the first two", x.trace(2), 102);
        due("a fault at the last byte", Checks.trace(x, times("001b", 49) + "001B"), Checks.fault(1, 199));
        due("a fault at the end", Checks.trace(x, times("001b", 49) + "(01b"), Checks.fault(1, 200));
        due("a digit too many at the last byte", Checks.trace(x, times("001b", 49) + "0011"), Checks.fault(2, 199));
    }

    /** "a GAP (one to three digits, 1 to 999)"; "2 a fourth digit, at it; 3 a GAP of 0, at its first digit, asked when .." */
    private static void traceGaps() {
        Object[][] right = {{"1a", 1}, {"01a", 1}, {"001a", 1}, {"999a", 999}, {"099a", 99}, {"10a", 10}, {"100a", 100}};
        for (Object[] one : right) {
            KnockFinder x = new KnockFinder();
            due("trace " + one[0], Checks.trace(x, (String) one[0]), 1);
            due("its tick", x.knock(0, 0), (int) one[1]);
        }
        Object[][] wrong = {
            {"0a", 3, 0}, {"00a", 3, 0}, {"000a", 3, 0}, {"0", 3, 0}, {"000", 3, 0}, {"0(", 3, 0}, {"00)", 3, 0},
            {"0000a", 2, 3}, {"0001a", 2, 3}, {"1000a", 2, 3}, {"9999", 2, 3}, {"1a0a", 3, 2}, {"1a0000", 2, 5},
            {"(0a)2", 3, 1}, {"(1a)20a", 3, 5}, {"(1a)21000a", 2, 8}, {"0a0a", 3, 0}, {"1a0a1000a", 3, 2}, {"1000a0a", 2, 3},
        };
        wrongTraces(wrong);
    }

    private static void wrongTraces(Object[][] all) {
        for (Object[] one : all) {
            KnockFinder x = new KnockFinder();
            due("trace " + one[0], Checks.trace(x, (String) one[0]), Checks.fault((int) one[1], (int) one[2]));
            due("none came", x.get(9), 0);
            due("the tape is empty", x.get(12), 0);
        }
    }

    /** "a letter a to z (STRENGTH 1 to 26)" */
    private static void traceLetters() {
        KnockFinder x = with("1a1b1y1z");
        int[] strengths = {1, 2, 25, 26};
        for (int k = 0; k < 4; k++) {
            due("strength", x.knock(k, 1), strengths[k]);
        }
        wrongTraces(new Object[][] {{"1`", 1, 1}, {"1{", 1, 1}, {"1A", 1, 1}, {"1Z", 1, 1}, {"1", 1, 1}, {"12", 1, 2},
            {"123", 1, 3}, {"1 a", 1, 1}, {"1/", 1, 1}, {"1:", 1, 1}, {"1aa", 1, 2}, {"1a ", 1, 2}, {"a", 1, 0}, {"/a", 1, 0},
            {":a", 1, 0}, {" ", 1, 0}});
    }

    /** "or ( ITEMS ) and a digit 2 to 9: so many times" */
    private static void traceRounds() {
        for (int times = 2; times <= 9; times++) {
            KnockFinder x = with("(3a2b)" + times);
            due("rounds " + times, x.get(9), 2 * times);
            due("the last tick", x.knock(2 * times - 1, 0), 5 * times);
        }
        wrongTraces(new Object[][] {{"(1a)1", 1, 4}, {"(1a)0", 1, 4}, {"(1a):", 1, 4}, {"(1a)/", 1, 4}, {"(1a)", 1, 4},
            {"(1a))", 1, 4}, {"(1a)a", 1, 4}, {"(1a)(", 1, 4}, {"(1a)22", 1, 6}, {"(1a)2a", 1, 5}, {"(1a)2)2", 1, 5},
            {"(1a", 1, 3}, {"(", 1, 1}, {")", 1, 0}, {"()2", 1, 1}, {"(()2)2", 1, 2}, {"1a()2", 1, 3}, {"(1a()2)2", 1, 4},
            {"(1)2", 1, 2}});
    }

    /** "5 a fourth ( open at once, at it" */
    private static void traceOpen() {
        due("one", with("(1a)2").get(9), 2);
        due("two", with("((1a)2)2").get(9), 4);
        due("three", with("(((1a)2)2)2").get(9), 8);
        due("three, one behind the other", with("(((1a)2)2(1a)2((1a)2)2)2").get(9), 20);
        due("four that are not open at once", with("(1a)2(1a)2(1a)2(1a)2(1a)2").get(9), 10);
        wrongTraces(new Object[][] {{"((((1a)2)2)2)2", 5, 3}, {"((((", 5, 3}, {"(((1a(", 5, 5}, {"(((1a)2(1a)2)2((", 1, 16},
            {"(((1a)2)2((1a)2((", 5, 16}, {"(((1a)2((", 5, 8}});
    }

    /** "the first from the left (of one place that of the least number)" */
    private static void traceFaultsOfOnePlace() {
        wrongTraces(new Object[][] {{"(((1(", 1, 4}, {"((()", 1, 3}, {"(((0(", 3, 3}, {"((()(", 1, 3}, {"(((1a)(", 1, 6},
            {"(((1a)1(", 1, 6}, {"(((1111(", 2, 6}, {"1a)((((", 1, 2}, {"((((1111", 5, 3}, {"0a((((", 3, 0}});
    }

    /** "KNOCKS, 200 at most"; "-3: there would be more than 200" */
    private static void traceMany() {
        KnockFinder x = new KnockFinder();
        due("201 at once", Checks.trace(x, "(((1a)8)5)51a"), -3);
        due("none came", x.get(9), 0);
        due("200 at once", Checks.trace(x, "(((1a)8)5)5"), 200);
        due("one more", Checks.trace(x, "1a"), -3);
        due("200 stay", x.get(9), 200);
        x.drop(0);
        due("two more than 199", Checks.trace(x, "1a1a"), -3);
        due("199 stay", x.get(9), 199);
        due("one more than 199", Checks.trace(x, "1b"), 200);
        due("it is the last", x.knock(199, 0), 201);
        due("its strength", x.knock(199, 1), 2);
        due("far too many", Checks.trace(new KnockFinder(), "(((1a1a1a1a1a1a1a)9)9)9"), -3);
        due("a fault comes ahead", Checks.trace(x, "(((1a)9)9)9)"), Checks.fault(1, 11));
    }

    /** "ticks that rise (0 to 99999)"; "-4: a tick would be above 99999 (of both what comes first)" */
    private static void traceTicks() {
        String late = "((999a)5(999a)5)9(999a)9999a";
        KnockFinder x = with(late);
        due("100 knocks, up to 99900", x.knock(99, 0), 99900);
        due("100000", Checks.trace(x, "100a"), -4);
        due("none came", x.get(9), 100);
        due("99999", Checks.trace(x, "99a"), 101);
        due("it is the last", x.knock(100, 0), 99999);
        due("one tick more", Checks.trace(x, "1a"), -4);
        x.undo();
        due("the tick comes first", Checks.trace(x, "100a(((1a)9)9)2"), -4);
        due("a fault comes ahead", Checks.trace(x, "999a)"), Checks.fault(1, 4));
        // 174 knocks, up to 98976: 26 more can come, within 1023 ticks.
        KnockFinder y = with("(((1a)5)5)3((999a)9)9(999a)9(999a)9");
        due("its last tick", y.knock(173, 0), 98976);
        due("the 201st comes, then a tick that is too late", Checks.trace(y, "(1a)9(1a)9(1a)9999a"), -3);
        due("the 200th is too late, then comes a 201st", Checks.trace(y, "(1a)9(1a)9(1a)7999a1a"), -4);
        due("the 200th is just in time, then comes a 201st", Checks.trace(y, "(1a)9(1a)9(1a)7998a1a"), -3);
        due("none came", y.get(9), 174);
        due("the 200th is just in time", Checks.trace(y, "(1a)9(1a)9(1a)7998a"), 200);
        due("the last tick", y.knock(199, 0), 99999);
    }

    /** "KNOCKS come behind those there are, all or none"; "the first one of all behind tick 0" */
    private static void traceAllOrNone() {
        KnockFinder x = with("5a");
        due("the first one behind tick 0", x.knock(0, 0), 5);
        due("two more", Checks.trace(x, "5b6c"), 3);
        due("behind those there are", x.knock(1, 0), 10);
        due("behind those there are", x.knock(2, 0), 16);
        due("a fault at the end", Checks.trace(x, "5b6c7"), Checks.fault(1, 5));
        due("none came", x.get(9), 3);
        x.drop(2);
        due("behind the last one there is", Checks.trace(x, "1d"), 3);
        due("its tick", x.knock(2, 0), 11);
        Checks.filters(x, "w1;y50");
        due("behind the last of the trace, not of what is seen", Checks.trace(x, "1d"), 4);
        x.filters(0);
        due("its tick", x.knock(3, 0), 12);
    }

    /** "FILTERS: a TEXT of at most 60 bytes" */
    private static void filtersLength() {
        KnockFinder x = with("5a5b");
        due("the longest right one", Checks.filters(x, "a00;b99;m00;k01;r00;w99;x10;y00;a01;b99"), 2);
        due("steps", x.get(11), 10);
        due("60 bytes", Checks.filters(x, times("a00;", 15)), Checks.fault(4, 40));
        due("61 bytes", Checks.filters(x, times("a00;", 15) + "a"), -1);
        due("the tape stays", x.get(12), 80);
        due("the steps stay", x.get(11), 10);
        due("the first seven", x.filters(7), 2);
        due("two steps", x.get(11), 2);
        Checks.feed(x, "r1");
        due("a byte more than there is", x.filters(21), -1);
        due("n -1", x.filters(-1), -1);
        due("the tape stays", x.get(12), 20);
        due("0: none", x.filters(0), 2);
        due("no steps", x.get(11), 0);
        due("the tape is empty", x.get(12), 0);
    }

    /** "10 at most"; "4 an 11th STEP, where it begins (whatever stands there)" */
    private static void filtersMany() {
        String ten = "a1;a1;a1;a1;a1;a1;a1;a1;a1;r1";
        KnockFinder x = with("5a5b");
        due("nine", Checks.filters(x, ten.substring(0, 26)), 2);
        due("ten", Checks.filters(x, ten), 1);
        for (String eleventh : new String[] {"a1", "k0", "z", "1", ";", "", "a", "a111"}) {
            due("ten and " + eleventh, Checks.filters(x, ten + ";" + eleventh), Checks.fault(4, 30));
        }
        due("nine and a ; alone", Checks.filters(x, ten.substring(0, 27)), Checks.fault(1, 27));
        due("a wrong sign behind ten", Checks.filters(x, ten + ":a1"), Checks.fault(1, 29));
        due("a fault ahead of the 11th", Checks.filters(x, ten.replace("r1", "x0") + ";a1"), Checks.fault(3, 28));
        due("ten stay", x.get(11), 10);
    }

    /** "a letter and a NUMBER (one or two digits)"; "2 a third digit, 3 k 0, x 0, at the digit" */
    private static void filtersNumbers() {
        Object[][] all = {
            {"a0", 2}, {"b0", 0}, {"m0", 2}, {"r0", 2}, {"w0", 0}, {"y0", 2}, {"k1", 2}, {"k01", 2}, {"x1", 2}, {"x01", 2},
            {"a00", 2}, {"b99", 2}, {"y99", 2}, {"x99", 2}, {"k99", 1},
            {"k0", Checks.fault(3, 1)}, {"k00", Checks.fault(3, 1)}, {"x0", Checks.fault(3, 1)}, {"x00", Checks.fault(3, 1)},
            {"a1;k0", Checks.fault(3, 4)}, {"k0;k0", Checks.fault(3, 1)}, {"k0;", Checks.fault(3, 1)}, {"x0z", Checks.fault(3, 1)},
            {"a000", Checks.fault(2, 3)}, {"a100", Checks.fault(2, 3)}, {"k000", Checks.fault(2, 3)}, {"a1;y123", Checks.fault(2, 6)},
            {"a", Checks.fault(1, 1)}, {"a;", Checks.fault(1, 1)}, {"a/", Checks.fault(1, 1)}, {"a:", Checks.fault(1, 1)},
            {"ab1", Checks.fault(1, 1)}, {"a-1", Checks.fault(1, 1)}, {"a1:", Checks.fault(1, 2)}, {"a1 ", Checks.fault(1, 2)},
            {"a1;", Checks.fault(1, 3)}, {"a11;", Checks.fault(1, 4)}, {"a11:", Checks.fault(1, 3)}, {"a1<b1", Checks.fault(1, 2)},
        };
        for (Object[] one : all) {
            due("filters " + one[0], Checks.filters(with("5a5b"), (String) one[0]), (int) one[1]);
        }
    }

    /** Only a, b, m, k, r, w, x, y begin a step. */
    private static void filtersLetters() {
        for (int sign = 0; sign < 256; sign++) {
            boolean right = "abmkrwxy".indexOf(sign) >= 0;
            int got = Checks.filters(with("5a5b"), (char) sign + "1");
            C.isTrue("filters by the sign " + sign + " answer " + got, right ? got >= 0 : got == Checks.fault(1, 0));
        }
    }

    private static void seenIs(String trace, String steps, String want) {
        KnockFinder x = with(trace);
        int many = Checks.filters(x, steps);
        StringBuilder b = new StringBuilder();
        for (int k = 0; k < many; k++) {
            b.append(k == 0 ? "" : " ").append(x.knock(k, 0)).append('/').append(x.knock(k, 1));
        }
        C.isTrue(trace + " by " + steps + " is " + b, b.toString().equals(want));
        due("seen", x.get(10), many);
        due("none behind the last", x.knock(many, 0), -1);
    }

    /** a: "N or more stay", b: "of N or less", x: "STRENGTH times N by 10 (cut; 1 to 99)" */
    private static void filtersOfStrength() {
        seenIs("1d1e1f", "a5", "2/5 3/6");
        seenIs("1d1e1f", "b5", "1/4 2/5");
        seenIs("1d1e1f", "a5;b5", "2/5");
        seenIs("1d1e1f", "a6;b5", "");
        seenIs("1a1z", "a1", "1/1 2/26");
        seenIs("1a1z", "a26", "2/26");
        seenIs("1a1z", "a27", "");
        seenIs("1a1z", "b1", "1/1");
        seenIs("1a1z", "b25", "1/1");
        seenIs("1a1z", "b26", "1/1 2/26");
        seenIs("1i1j1k1s1t", "x1", "1/1 2/1 3/1 4/1 5/2");
        seenIs("1a1z", "x10", "1/1 2/26");
        seenIs("1a1z", "x9", "1/1 2/23");
        seenIs("1a1z", "x11", "1/1 2/28");
        seenIs("1i1j1k", "x99", "1/89 2/99 3/99");
        seenIs("1z", "x38", "1/98");
        seenIs("1z", "x39", "1/99");
        seenIs("1z1z", "x99;a99", "1/99 2/99");
        seenIs("1z1z", "x99;b98", "");
    }

    /** m: "less than N ticks behind the last one that stays goes, its STRENGTH comes to that one's (99 at most)", y */
    private static void filtersOfTicks() {
        seenIs("10a5b", "m5", "10/1 15/2");
        seenIs("10a5b", "m6", "10/3");
        seenIs("10a1b", "m1", "10/1 11/2");
        seenIs("10a1b", "m0", "10/1 11/2");
        seenIs("10a1b", "m2", "10/3");
        seenIs("10a99b", "m99", "10/1 109/2");
        seenIs("10a98b", "m99", "10/3");
        // 14 goes to 10, so 18 is held against 10 and stays, though 14 is less than 8 ahead of it.
        seenIs("10a4b4c4d", "m8", "10/3 18/7");
        // The strengths of x: 64 and 35 are 99, 65 and 35 as well.
        seenIs("1z1n", "x25;m9", "1/99");
        seenIs("1z1m", "x25;m9", "1/97");
        seenIs("1z1z1z1w", "m9", "1/99");
        seenIs("1z1z1z1v1z", "m9", "1/99");
        seenIs("1z1z1z1u", "m9", "1/99");
        seenIs("1z1z1z1t", "m9", "1/98");
        seenIs("10a", "y0", "10/1");
        seenIs("10a1b", "y99", "109/1 110/2");
        seenIs("10a1b", "y99;y1;m1", "110/1 111/2");
        // Knocks of the trace end at 99999, those that are seen may come later.
        KnockFinder late = with("((999a)5(999a)5)9(999a)9999b99c");
        due("ten times later", Checks.filters(late, "r99;y99;y99;y99;y99;y99;y99;y99;y99;y99"), 2);
        due("the last but one", late.knock(0, 0), 99900 + 9 * 99);
        due("the last one", late.knock(1, 0), 99999 + 9 * 99);
        due("the trace stays", Checks.trace(late, "1a"), -4);
    }

    /** k: "every N-th stays (the first, N behind it, ..)", r: "the first N go", w: "the first N alone stay" */
    private static void filtersOfPlace() {
        seenIs("1a1b1c1d1e", "k1", "1/1 2/2 3/3 4/4 5/5");
        seenIs("1a1b1c1d1e", "k2", "1/1 3/3 5/5");
        seenIs("1a1b1c1d1e", "k4", "1/1 5/5");
        seenIs("1a1b1c1d1e", "k5", "1/1");
        seenIs("1a1b1c1d1e", "k99", "1/1");
        seenIs("1a1b1c", "r0", "1/1 2/2 3/3");
        seenIs("1a1b1c", "r1", "2/2 3/3");
        seenIs("1a1b1c", "r2", "3/3");
        seenIs("1a1b1c", "r3", "");
        seenIs("1a1b1c", "r99", "");
        seenIs("1a1b1c", "w0", "");
        seenIs("1a1b1c", "w1", "1/1");
        seenIs("1a1b1c", "w2", "1/1 2/2");
        seenIs("1a1b1c", "w3", "1/1 2/2 3/3");
        seenIs("1a1b1c", "w99", "1/1 2/2 3/3");
        seenIs("1a1b1c", "w0;k1;m9;x5;y5;a0;b9", "");
        KnockFinder x = with("(((1a)8)5)5");
        due("99 of 200", Checks.filters(x, "w99"), 99);
        due("101 of 200", Checks.filters(x, "r99"), 101);
        due("each 99th of 200", Checks.filters(x, "k99"), 3);
        due("the last of them", x.knock(2, 0), 199);
    }

    /** "SEEN are KNOCKS as they are behind all STEPS, in order (all without FILTERS), numbered from 0 on" */
    private static void filtersInOrder() {
        seenIs("1a1b1c1d", "r1;w1", "2/2");
        seenIs("1a1b1c1d", "w1;r1", "");
        seenIs("1a1b1c1d", "x20;a5", "3/6 4/8");
        seenIs("1a1b1c1d", "a3;x20", "3/6 4/8");
        seenIs("1a1b1c1d", "k2;m3", "1/4");
        seenIs("1a1b1c1d", "m3;k2", "1/6");
        KnockFinder x = with("1a1b");
        due("all without filters", x.get(10), 2);
        Checks.filters(x, "r1");
        due("less with them", x.get(10), 1);
        due("in place of those before", Checks.filters(x, "a1"), 2);
        due("one step", x.get(11), 1);
    }

    /** "SCORES by 10 (cut) of the BEST COMBS of KINDS 0 to 4 (255: none): right, or the first that is not so" */
    private static void checkBytes() {
        KnockFinder x = new KnockFinder();
        x.turn(1000);
        x.set(0, 0);
        x.bearing(4, 10, 20);
        // Outer 1, inner 3, ball 3 by 2, cage 1 by 4, shaft 1.
        Checks.trace(x, "1a(500a)2(500a)4");
        x.drop(5);
        x.drop(3);
        x.drop(1);
        // Ticks 1, 1001, 2001, 3001: outer and shaft have 4 of 4, the cage's period of 4000 has no second mark.
        due("outer", x.best(0, 2), 1000);
        due("cage", x.best(3, 0), -2);
        int[] scores = {100, x.best(1, 2) / 10, x.best(2, 2) / 10, 255, 100};
        for (int n = 0; n <= 5; n++) {
            put(x, scores);
            due("right, n " + n, x.check(n), -1);
            due("the tape is empty", x.get(12), 0);
        }
        int[][] wrong = {{99, 0}, {101, 0}, {0, 0}, {0, 3}, {254, 3}, {255, 0}, {255, 4}, {99, 4}};
        for (int[] one : wrong) {
            int[] bytes = scores.clone();
            bytes[one[1]] = one[0];
            put(x, bytes);
            due("byte " + one[1] + " is " + one[0], x.check(5), one[1]);
            due("the tape is empty", x.get(12), 0);
            put(x, bytes);
            due("it is not looked at", x.check(one[1]), -1);
        }
        put(x, new int[] {99, 99, 99, 99, 99});
        due("the first that is not so", x.check(5), 0);
        put(x, scores);
        due("n 6", x.check(6), -2);
        due("n -1", x.check(-1), -2);
        due("the tape stays", x.get(12), 20);
        due("it is there still", x.check(5), -1);
        KnockFinder y = new KnockFinder();
        put(y, new int[] {255, 255, 255, 255, 255});
        due("none has a comb", y.check(5), -1);
        put(y, new int[] {255, 255, 255, 255, 0});
        due("0 is not none", y.check(5), 4);
    }

    private static void put(KnockFinder x, int[] bytes) {
        x.feed(bytes[0] << 24 | bytes[1] << 16 | bytes[2] << 8 | bytes[3], bytes[4] << 24, 0, 0, 0);
    }
}
