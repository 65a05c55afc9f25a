import java.util.ArrayList;
import java.util.List;

/**
 * A finder in which there is something of all: 10 knocks, 9 of them seen, 2 spans, 3 notes, a fault found, 8 acts that
 * can be undone and a tape that is full, with the texts that fit in front. And of each call the numbers it takes there.
 */
final class Rich {
    private static final String FRONT = "80e80f40z";
    private static final int MIN = Integer.MIN_VALUE;
    private static final int MAX = Integer.MAX_VALUE;

    /** A call that is taken, a number of it, and the last ones that are taken there on either side. */
    static final class Range {
        final Call call;
        final int place;
        final int low;
        final int high;

        Range(int place, int low, int high, String name, int... numbers) {
            this.call = new Call(name, numbers);
            this.place = place;
            this.low = low;
            this.high = high;
        }

        List<Call> taken() {
            return List.of(call.with(place, low), call.with(place, high));
        }

        List<Call> refused() {
            List<Call> all = new ArrayList<>();
            if (low > MIN) {
                all.add(call.with(place, low - 1));
                all.add(call.with(place, MIN));
            }
            if (high < MAX) {
                all.add(call.with(place, high + 1));
                all.add(call.with(place, MAX));
            }
            return all;
        }
    }

    private Rich() {
    }

    static KnockFinder finder() {
        KnockFinder x = new KnockFinder();
        x.note(10);
        Checks.trace(x, "7y(80e)9");
        x.note(20);
        Checks.filters(x, "b9");
        x.set(0, 110);
        Checks.speeds(x, "5:250;90:240");
        x.turn(260);
        x.bearing(8, 10, 40);
        x.set(3, 4);
        x.note(30);
        x.drop(0);
        Checks.trace(x, "9z");
        for (int i = 0; i < 12; i++) {
            Checks.feed(x, FRONT);
        }
        return x;
    }

    /** All that can be seen of a finder without changing it: some 250 calls. */
    static List<Long> picture(KnockFinder x) {
        List<Long> all = shortPicture(x);
        for (int kind = 0; kind < 5; kind++) {
            for (int what = 0; what < 7; what++) {
                all.add((long) x.best(kind, what));
            }
            all.add((long) x.longest(kind, 0));
            all.add((long) x.folded(kind, 4, 8));
            all.add(x.line(kind, 0));
            all.add((long) x.due(kind, 60));
            all.add((long) x.ranked(kind));
            all.add((long) x.fault(0, kind));
        }
        for (int k = 0; k < x.get(10); k++) {
            all.add((long) x.knock(k, 0));
            all.add((long) x.knock(k, 1));
        }
        for (int i = 0; i < x.get(15); i++) {
            for (int what = 0; what <= 10; what++) {
                all.add((long) x.noteIs(i, what));
            }
        }
        return all;
    }

    /** What there is, and a little of each thing. */
    static List<Long> shortPicture(KnockFinder x) {
        List<Long> all = new ArrayList<>();
        for (int what = 0; what <= 15; what++) {
            all.add((long) x.get(what));
        }
        all.add(x.angle(4));
        all.add(x.angle(80));
        all.add(x.angle(99999));
        all.add((long) x.knock(0, 0));
        all.add((long) x.knock(1, 1));
        all.add((long) x.best(0, 3));
        all.add((long) x.faults(0));
        all.add((long) x.faults(1));
        all.add((long) x.noteIs(x.get(15) - 1, 0));
        all.add((long) x.noteIs(x.get(15) - 1, 6));
        return all;
    }

    /** All numbers of all calls but check(), whose -1 tells that all is right. */
    static List<Range> ranges() {
        List<Range> all = new ArrayList<>();
        ofActs(all);
        ofPlainQuestions(all);
        ofCombs(all);
        ofFaults(all);
        ofTrials(all);
        return all;
    }

    private static void ofActs(List<Range> all) {
        all.add(new Range(0, 3, 30, "bearing", 8, 10, 40));
        all.add(new Range(1, 1, 98, "bearing", 8, 10, 999));
        all.add(new Range(1, 1, 39, "bearing", 8, 10, 40));
        all.add(new Range(2, 11, 999, "bearing", 8, 10, 40));
        all.add(new Range(2, 2, 999, "bearing", 8, 1, 40));
        all.add(new Range(2, 99, 999, "bearing", 8, 98, 400));
        all.add(new Range(0, 20, 5000, "turn", 240));
        all.add(new Range(0, 0, 100, "speeds", 3));
        all.add(new Range(0, 1, 200, "trace", 3));
        all.add(new Range(0, 0, 60, "filters", 3));
        all.add(new Range(0, 0, 4, "set", 0, 2));
        all.add(new Range(1, 0, 490, "set", 0, 2));
        all.add(new Range(1, 0, 50, "set", 1, 2));
        all.add(new Range(1, 0, 5, "set", 2, 2));
        all.add(new Range(1, 2, 50, "set", 3, 2));
        all.add(new Range(1, 0, 1000, "set", 4, 2));
        all.add(new Range(0, 0, 9, "drop", 1));
        all.add(new Range(0, 0, 9999, "note", 40));
    }

    private static void ofPlainQuestions(List<Range> all) {
        all.add(new Range(0, 0, 99999, "angle", 7));
        all.add(new Range(0, 0, 2, "noteIs", 1, 0));
        all.add(new Range(1, 0, 10, "noteIs", 1, 0));
        all.add(new Range(0, 0, 4, "due", 1, 5));
        all.add(new Range(1, 0, 99999, "due", 1, 5));
        all.add(new Range(0, 0, 15, "get", 3));
        all.add(new Range(0, 0, 8, "knock", 3, 0));
        all.add(new Range(1, 0, 2, "knock", 3, 0));
        all.add(new Range(0, 0, 4, "ratio", 3, 0));
        all.add(new Range(1, 0, 2, "ratio", 3, 0));
        all.add(new Range(0, 1, 9999, "lag", 80, 5));
        all.add(new Range(1, 0, 99, "lag", 80, 5));
        all.add(new Range(0, 1, 500, "lags", 80, 500, 5, 0));
        all.add(new Range(0, 9500, 9999, "lags", 9600, 9999, 5, 0));
        all.add(new Range(0, 1, 7, "lags", 7, 7, 5, 0));
        all.add(new Range(1, 1, 500, "lags", 1, 90, 5, 0));
        all.add(new Range(1, 9500, 9999, "lags", 9500, 9500, 5, 0));
        all.add(new Range(2, 0, 99, "lags", 80, 90, 5, 0));
        all.add(new Range(3, 0, 1, "lags", 80, 90, 5, 0));
        all.add(new Range(0, 1, 9999, "nearest", 80, 0));
        all.add(new Range(1, 0, 2, "nearest", 80, 0));
    }

    private static void ofCombs(List<Range> all) {
        all.add(new Range(0, 0, 4, "comb", 1, 3, 0));
        all.add(new Range(1, 0, 8, "comb", 1, 3, 0));
        all.add(new Range(2, 0, 5, "comb", 1, 3, 0));
        all.add(new Range(0, 0, 4, "hit", 1, 3, 0));
        all.add(new Range(1, 0, 8, "hit", 1, 3, 0));
        all.add(new Range(2, 0, MAX, "hit", 1, 3, 0));
        all.add(new Range(0, 0, 4, "best", 1, 0));
        all.add(new Range(1, 0, 6, "best", 1, 0));
        all.add(new Range(0, 0, 4, "side", 1, 0));
        all.add(new Range(1, -3, 3, "side", 1, 0));
        all.add(new Range(0, 0, 4, "shared", 1, 2));
        all.add(new Range(1, 0, 4, "shared", 1, 2));
        all.add(new Range(0, 0, 4, "both", 1, 2, 0));
        all.add(new Range(1, 0, 4, "both", 1, 2, 0));
        all.add(new Range(2, 0, 2, "both", 1, 2, 0));
        all.add(new Range(0, 0, 7, "window", 1, 8, 2, 0));
        all.add(new Range(0, 0, 0, "window", 0, 1, 2, 0));
        all.add(new Range(1, 1, 8, "window", 0, 2, 2, 0));
        all.add(new Range(1, 4, 8, "window", 3, 5, 2, 0));
        all.add(new Range(2, 0, 4, "window", 0, 2, 2, 0));
        all.add(new Range(3, 0, 2, "window", 0, 2, 2, 0));
        all.add(new Range(0, 0, 4, "chain", 1, 3, 0));
        all.add(new Range(1, 0, 8, "chain", 1, 3, 0));
        all.add(new Range(2, 0, 2, "chain", 1, 3, 0));
        all.add(new Range(0, 0, 4, "longest", 1, 0));
        all.add(new Range(1, 0, 3, "longest", 1, 0));
        all.add(new Range(0, 0, 4, "folded", 1, 2, 0));
        all.add(new Range(1, 0, 4, "folded", 1, 2, 0));
        all.add(new Range(2, 0, 8, "folded", 1, 2, 0));
    }

    private static void ofFaults(List<Range> all) {
        all.add(new Range(0, 0, 4, "ranked", 1));
        all.add(new Range(0, 0, 1, "faults", 1));
        all.add(new Range(0, 0, MAX, "fault", 0, 1));
        all.add(new Range(1, 0, 5, "fault", 0, 1));
        all.add(new Range(1, 0, 5, "fault", 9, 1));
        all.add(new Range(0, 0, MAX, "report", 0, 1));
        all.add(new Range(1, -1, MAX, "report", 0, 1));
        all.add(new Range(1, -1, MAX, "report", 9, 1));
        all.add(new Range(0, 0, 4, "apart", 1, 2));
        all.add(new Range(1, 0, 4, "apart", 1, 2));
    }

    private static void ofTrials(List<Range> all) {
        all.add(new Range(0, 3, 30, "tried", 8, 10, 40, 100, 0));
        all.add(new Range(1, 1, 98, "tried", 8, 10, 999, 100, 0));
        all.add(new Range(1, 1, 39, "tried", 8, 10, 40, 0, 0));
        all.add(new Range(2, 11, 999, "tried", 8, 10, 40, 0, 0));
        all.add(new Range(2, 2, 999, "tried", 8, 1, 40, 0, 0));
        all.add(new Range(3, 20, 5000, "tried", 8, 10, 40, 100, 0));
        all.add(new Range(3, 0, 0, "tried", 8, 10, 40, 0, 0));
        all.add(new Range(4, 0, 2, "tried", 8, 10, 40, 100, 0));
        all.add(new Range(0, 0, 4, "bestTurn", 1, 200, 210, 0));
        all.add(new Range(1, 20, 100, "bestTurn", 1, 30, 100, 0));
        all.add(new Range(1, 201, 400, "bestTurn", 1, 300, 400, 0));
        all.add(new Range(1, 4801, 5000, "bestTurn", 1, 4900, 5000, 0));
        all.add(new Range(2, 200, 399, "bestTurn", 1, 200, 210, 0));
        all.add(new Range(2, 20, 219, "bestTurn", 1, 20, 210, 0));
        all.add(new Range(2, 4950, 5000, "bestTurn", 1, 4950, 4960, 0));
        all.add(new Range(3, 0, 1, "bestTurn", 1, 200, 210, 0));
    }
}
