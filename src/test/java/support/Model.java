import java.util.ArrayDeque;
import java.util.ArrayList;
import java.util.Collections;
import java.util.Comparator;
import java.util.Deque;
import java.util.List;
import java.util.TreeSet;

/**
 * The document's words as plainly as they can be written, without a thought for speed: each mark
 * is looked at, each knock is held against it. Random runs hold the class against this model.
 */
final class Model {
    private static final String[] NAMES = {"outer", "inner", "ball", "cage", "shaft"};

    /** Combs with more marks than this are too slow to look at here. */
    static final int MOST_MARKS = 700;

    private static final class Refused extends RuntimeException {
        private static final long serialVersionUID = 1;
        final int answer;

        Refused(int answer) {
            this.answer = answer;
        }
    }

    private static final class Knock {
        int tick;
        int strength;

        Knock(int tick, int strength) {
            this.tick = tick;
            this.strength = strength;
        }
    }

    private static final class State {
        int balls = 8;
        int ball = 10;
        int ring = 40;
        int turn = 240;
        int[] options = {100, 0, 1, 4, 500};
        List<int[]> spans = new ArrayList<>();
        List<int[]> steps = new ArrayList<>();
        List<Knock> knocks = new ArrayList<>();
        List<int[]> notes = new ArrayList<>();

        State copy() {
            State s = new State();
            s.balls = balls;
            s.ball = ball;
            s.ring = ring;
            s.turn = turn;
            s.options = options.clone();
            s.spans = new ArrayList<>(spans);
            s.steps = new ArrayList<>(steps);
            s.knocks = new ArrayList<>(knocks);
            s.notes = new ArrayList<>(notes);
            return s;
        }
    }

    /** A comb as it lies: of each mark the number of the knock that is its hit, or -1. */
    private static final class Comb {
        int from;
        List<Integer> marks = new ArrayList<>();
        List<Knock> knocks;
        long most = 0;
        long period;

        List<Integer> hits() {
            List<Integer> list = new ArrayList<>(marks);
            list.removeIf(k -> k < 0);
            return list;
        }

        int score() {
            return hits().size() * 1000 / marks.size();
        }

        int strengths() {
            int sum = 0;
            for (int k : hits()) {
                sum += knocks.get(k).strength;
            }
            return sum;
        }

        int tell(int what) {
            switch (what) {
                case 0: return hits().size();
                case 1: return marks.size();
                case 2: return score();
                case 3: return strengths();
                case 4: return knocks.get(Collections.max(hits())).tick;
                case 5: return (int) (most * 1000 / period);
                default: return from;
            }
        }
    }

    private State now = new State();
    private final Deque<State> past = new ArrayDeque<>();
    private List<Integer> tape = new ArrayList<>();

    private void act(State next) {
        past.addLast(now);
        if (past.size() > 8) {
            past.removeFirst();
        }
        now = next;
    }

    int feed(int a, int b, int c, int d, int e) {
        if (tape.size() > 220) {
            return -1;
        }
        for (int four : new int[] {a, b, c, d, e}) {
            tape.add(four >>> 24);
            tape.add(four >>> 16 & 255);
            tape.add(four >>> 8 & 255);
            tape.add(four & 255);
        }
        return tape.size();
    }

    private static boolean canBe(int balls, int ball, int ring) {
        return 3 <= balls && balls <= 30 && 1 <= ball && ball <= 98 && 2 <= ring && ring <= 999 && ball < ring;
    }

    int bearing(int balls, int ball, int ring) {
        if (!canBe(balls, ball, ring)) {
            return -1;
        }
        State s = now.copy();
        s.balls = balls;
        s.ball = ball;
        s.ring = ring;
        act(s);
        return 0;
    }

    int turn(int ticks) {
        if (ticks < 20 || ticks > 5000) {
            return -1;
        }
        int was = now.turn;
        State s = now.copy();
        s.turn = ticks;
        act(s);
        return was;
    }

    private String take(int n) {
        StringBuilder b = new StringBuilder();
        for (int i = 0; i < n; i++) {
            b.append((char) (int) tape.get(i));
        }
        tape = new ArrayList<>();
        return b.toString();
    }

    private static Refused faultAt(int number, int place) {
        return new Refused(-1000 * number - place);
    }

    private static char at(String text, int i) {
        return i < text.length() ? text.charAt(i) : (char) 999;
    }

    private static boolean digit(char c) {
        return '0' <= c && c <= '9';
    }

    /** Where the digits that begin at a place end. */
    private static int digits(String text, int from, int most) {
        int i = from;
        while (digit(at(text, i))) {
            if (i - from == most) {
                throw faultAt(2, i);
            }
            i++;
        }
        if (i == from) {
            throw faultAt(1, from);
        }
        return i;
    }

    int speeds(int n) {
        if (n < 0 || n > 100 || n > tape.size()) {
            return -1;
        }
        State s = now.copy();
        s.spans.clear();
        try {
            readSpeeds(take(n), s.spans);
        } catch (Refused r) {
            return r.answer;
        }
        act(s);
        return s.spans.size();
    }

    private static void readSpeeds(String text, List<int[]> spans) {
        int i = 0;
        while (!text.isEmpty()) {
            if (spans.size() == 10) {
                throw faultAt(4, i);
            }
            int end = digits(text, i, 5);
            int tick = Integer.parseInt(text.substring(i, end));
            if (!spans.isEmpty() && tick <= spans.get(spans.size() - 1)[0]) {
                throw faultAt(3, i);
            }
            if (at(text, end) != ':') {
                throw faultAt(1, end);
            }
            i = end + 1;
            end = digits(text, i, 4);
            int turn = Integer.parseInt(text.substring(i, end));
            if (turn < 20 || turn > 5000) {
                throw faultAt(3, i);
            }
            spans.add(new int[] {tick, turn});
            if (end == text.length()) {
                return;
            }
            if (at(text, end) != ';') {
                throw faultAt(1, end);
            }
            i = end + 1;
        }
    }

    private static long angle(State s, int tick) {
        List<int[]> all = new ArrayList<>();
        all.add(new int[] {0, s.turn});
        all.addAll(s.spans);
        long sum = 0;
        for (int i = 0; i < all.size(); i++) {
            int begin = all.get(i)[0];
            int end = i + 1 < all.size() ? Math.min(tick, all.get(i + 1)[0]) : tick;
            if (end > begin) {
                sum += (end - begin) * 1000000L / all.get(i)[1];
            }
        }
        return sum;
    }

    long angle(int tick) {
        return tick < 0 || tick > 99999 ? -1 : angle(now, tick);
    }

    /** Reads a row of items and lays its knocks, or only reads it (into null); where it ends. */
    private static int items(String text, int from, int open, List<Knock> into) {
        int i = from;
        while (true) {
            char c = at(text, i);
            if (i > from && (open == 0 ? i == text.length() : c == ')')) {
                return i;
            }
            if (c == '(') {
                if (open == 3) {
                    throw faultAt(5, i);
                }
                int end = items(text, i + 1, open + 1, null);
                char times = at(text, end + 1);
                if (times < '2' || times > '9') {
                    throw faultAt(1, end + 1);
                }
                for (int round = 0; into != null && round < times - '0'; round++) {
                    items(text, i + 1, open + 1, into);
                }
                i = end + 2;
            } else {
                int end = digits(text, i, 3);
                int gap = Integer.parseInt(text.substring(i, end));
                if (gap == 0) {
                    throw faultAt(3, i);
                }
                char letter = at(text, end);
                if (letter < 'a' || letter > 'z') {
                    throw faultAt(1, end);
                }
                if (into != null) {
                    int last = into.isEmpty() ? 0 : into.get(into.size() - 1).tick;
                    if (into.size() == 200) {
                        throw new Refused(-3);
                    }
                    if (last + gap > 99999) {
                        throw new Refused(-4);
                    }
                    into.add(new Knock(last + gap, letter - 'a' + 1));
                }
                i = end + 1;
            }
        }
    }

    int trace(int n) {
        if (n < 1 || n > 200 || n > tape.size()) {
            return -1;
        }
        String text = take(n);
        State s = now.copy();
        try {
            items(text, 0, 0, null);
            items(text, 0, 0, s.knocks);
        } catch (Refused r) {
            return r.answer;
        }
        act(s);
        return s.knocks.size();
    }

    int filters(int n) {
        if (n < 0 || n > 60 || n > tape.size()) {
            return -1;
        }
        State s = now.copy();
        s.steps.clear();
        try {
            readSteps(take(n), s.steps);
        } catch (Refused r) {
            return r.answer;
        }
        act(s);
        return seen().size();
    }

    private static void readSteps(String text, List<int[]> steps) {
        int i = 0;
        while (!text.isEmpty()) {
            if (steps.size() == 10) {
                throw faultAt(4, i);
            }
            char letter = at(text, i);
            if ("abmkrwxy".indexOf(letter) < 0) {
                throw faultAt(1, i);
            }
            int end = digits(text, i + 1, 2);
            int number = Integer.parseInt(text.substring(i + 1, end));
            if (number == 0 && (letter == 'k' || letter == 'x')) {
                throw faultAt(3, i + 1);
            }
            steps.add(new int[] {letter, number});
            if (end == text.length()) {
                return;
            }
            if (at(text, end) != ';') {
                throw faultAt(1, end);
            }
            i = end + 1;
        }
    }

    private List<Knock> seen() {
        List<Knock> row = now.knocks;
        for (int[] step : now.steps) {
            row = filtered(row, (char) step[0], step[1]);
        }
        return row;
    }

    private static List<Knock> filtered(List<Knock> row, char letter, int n) {
        List<Knock> kept = new ArrayList<>();
        for (int i = 0; i < row.size(); i++) {
            Knock k = new Knock(row.get(i).tick, row.get(i).strength);
            Knock last = kept.isEmpty() ? null : kept.get(kept.size() - 1);
            if (letter == 'a' && k.strength < n || letter == 'b' && k.strength > n) {
                continue;
            }
            if (letter == 'k' && i % n != 0 || letter == 'r' && i < n || letter == 'w' && i >= n) {
                continue;
            }
            if (letter == 'm' && last != null && k.tick - last.tick < n) {
                last.strength = Math.min(99, last.strength + k.strength);
                continue;
            }
            if (letter == 'x') {
                k.strength = Math.min(99, Math.max(1, k.strength * n / 10));
            }
            if (letter == 'y') {
                k.tick += n;
            }
            kept.add(k);
        }
        return kept;
    }

    int set(int what, int v) {
        int[][] range = {{0, 490}, {0, 50}, {0, 5}, {2, 50}, {0, 1000}};
        if (what < 0 || what > 4 || v < range[what][0] || v > range[what][1]) {
            return -1;
        }
        State s = now.copy();
        s.options[what] = v;
        int was = now.options[what];
        act(s);
        return was;
    }

    int drop(int k) {
        if (k < 0 || k >= now.knocks.size()) {
            return -1;
        }
        State s = now.copy();
        s.knocks.remove(k);
        act(s);
        return s.knocks.size();
    }

    int note(int day) {
        if (day < 0 || day > 9999) {
            return -1;
        }
        if (now.notes.size() == 20) {
            return -3;
        }
        if (!now.notes.isEmpty() && now.notes.get(now.notes.size() - 1)[0] >= day) {
            return -4;
        }
        int[] told = new int[11];
        told[0] = day;
        for (int kind = 0; kind < 5; kind++) {
            Comb best = best(kind);
            told[1 + kind] = best == null ? 0 : best.hits().size();
            told[6 + kind] = best == null ? 0 : best.strengths();
        }
        State s = now.copy();
        s.notes.add(told);
        act(s);
        return s.notes.size();
    }

    int noteIs(int i, int what) {
        return i < 0 || i >= now.notes.size() || what < 0 || what > 10 ? -1 : now.notes.get(i)[what];
    }

    /** What the line rises a day, above and below, and the sums of days and strengths. */
    private java.math.BigInteger[] sums(int kind) {
        long n = now.notes.size();
        long x = 0;
        long y = 0;
        long xx = 0;
        long xy = 0;
        for (int[] note : now.notes) {
            x += note[0];
            y += note[6 + kind];
            xx += (long) note[0] * note[0];
            xy += (long) note[0] * note[6 + kind];
        }
        return new java.math.BigInteger[] {big(n * xy - x * y), big(n * xx - x * x), big(x), big(y), big(n)};
    }

    private static java.math.BigInteger big(long v) {
        return java.math.BigInteger.valueOf(v);
    }

    /** Where the line is on a day, above the line; what stands below is N times its rise's below. */
    private static java.math.BigInteger height(java.math.BigInteger[] s, int day) {
        return s[3].multiply(s[1]).add(s[0].multiply(s[4].multiply(big(day)).subtract(s[2])));
    }

    long line(int kind, int what) {
        if (kind < 0 || kind > 4 || what < 0 || what > 2 || now.notes.size() < 2) {
            return Long.MIN_VALUE;
        }
        java.math.BigInteger[] s = sums(kind);
        java.math.BigInteger common = s[0].gcd(s[1]);
        if (what < 2) {
            return s[what].divide(common).longValueExact();
        }
        java.math.BigInteger below = s[4].multiply(s[1]);
        java.math.BigInteger above = height(s, now.notes.get(now.notes.size() - 1)[0]);
        java.math.BigInteger[] parts = above.divideAndRemainder(below);
        return parts[0].longValueExact() - (parts[1].signum() < 0 ? 1 : 0);
    }

    int due(int kind, int limit) {
        if (kind < 0 || kind > 4 || limit < 0 || limit > 99999) {
            return -1;
        }
        if (now.notes.size() < 2) {
            return -3;
        }
        java.math.BigInteger[] s = sums(kind);
        java.math.BigInteger need = s[4].multiply(s[1]).multiply(big(limit));
        for (int day = now.notes.get(now.notes.size() - 1)[0]; day <= 99999; day++) {
            if (height(s, day).compareTo(need) >= 0) {
                return day;
            }
        }
        return -2;
    }

    int undo() {
        if (past.isEmpty()) {
            return -1;
        }
        now = past.removeLast();
        return past.size();
    }

    int get(int what) {
        int[] all = {now.options[0], now.options[1], now.options[2], now.options[3], now.options[4],
            now.balls, now.ball, now.ring, now.turn, now.knocks.size(), seen().size(), now.steps.size(),
            tape.size(), past.size(), now.spans.size(), now.notes.size()};
        return what < 0 || what > 15 ? -1 : all[what];
    }

    int knock(int k, int what) {
        List<Knock> row = seen();
        if (k < 0 || k >= row.size() || what < 0 || what > 2) {
            return -1;
        }
        if (what == 2) {
            return k == 0 ? -2 : row.get(k).tick - row.get(k - 1).tick;
        }
        return what == 0 ? row.get(k).tick : row.get(k).strength;
    }

    private static long[] ratio(State s, int kind) {
        long n = s.balls;
        long d = s.ball;
        long ring = s.ring;
        long[][] all = {{n * (ring - d), 2 * ring}, {n * (ring + d), 2 * ring},
            {ring * ring - d * d, ring * d}, {ring - d, 2 * ring}, {1, 1}};
        long g = big(all[kind][0]).gcd(big(all[kind][1])).longValueExact();
        return new long[] {all[kind][0] / g, all[kind][1] / g};
    }

    int ratio(int kind, int what) {
        if (kind < 0 || kind > 4 || what < 0 || what > 2) {
            return -1;
        }
        long[] r = ratio(now, kind);
        return (int) (what == 2 ? now.turn * r[1] * 100 / r[0] : r[what]);
    }

    /** Whether some comb of the knocks has too many marks to be looked at. */
    boolean isTooMuch() {
        List<Knock> row = seen();
        return !row.isEmpty() && isTooMuch(now, row);
    }

    private static boolean isTooMuch(State s, List<Knock> row) {
        for (int kind = 0; kind < 5; kind++) {
            long[] r = ratio(s, kind);
            long wide = angle(s, row.get(row.size() - 1).tick) - angle(s, row.get(0).tick);
            if (wide * (r[0] + 3 * r[1]) / r[1] / 1000000 > MOST_MARKS) {
                return true;
            }
        }
        return false;
    }

    /** A comb; all places and distances are times the ratio's upper number. */
    private static Comb lay(State s, List<Knock> row, long[] r, int from) {
        Comb c = new Comb();
        c.from = from;
        c.knocks = row;
        c.period = 1000000 * r[1];
        long last = angle(s, row.get(row.size() - 1).tick) * r[0];
        long first = angle(s, row.get(from).tick) * r[0];
        long[] places = new long[row.size()];
        for (int k = from; k < row.size(); k++) {
            places[k] = angle(s, row.get(k).tick) * r[0];
        }
        for (long m = 0; first + m * c.period <= last; m++) {
            long mark = first + m * c.period;
            int nearest = from;
            for (int k = from; k < row.size(); k++) {
                if (Math.abs(places[k] - mark) < Math.abs(places[nearest] - mark)) {
                    nearest = k;
                }
            }
            long off = Math.abs(places[nearest] - mark);
            long slip = Math.min(490, s.options[0] + m * s.options[1]);
            boolean hit = off * 1000 <= slip * c.period;
            c.marks.add(hit ? nearest : -1);
            if (hit) {
                c.most = Math.max(c.most, off);
            }
        }
        return c;
    }

    /** All combs with two marks or more, in the order of their knocks. */
    private static List<Comb> combs(State s, List<Knock> row, long[] r) {
        List<Comb> all = new ArrayList<>();
        for (int k = 0; k < row.size(); k++) {
            Comb c = lay(s, row, r, k);
            if (c.marks.size() >= 2) {
                all.add(c);
            }
        }
        return all;
    }

    private static Comb best(State s, List<Knock> row, long[] r) {
        List<Comb> all = combs(s, row, r);
        all.sort(Comparator.comparing((Comb c) -> -c.hits().size()).thenComparing(c -> -c.score())
            .thenComparing(c -> c.from));
        return all.isEmpty() ? null : all.get(0);
    }

    private Comb best(int kind) {
        return best(now, seen(), ratio(now, kind));
    }

    int comb(int kind, int k, int what) {
        if (kind < 0 || kind > 4 || k < 0 || k >= seen().size() || what < 0 || what > 5) {
            return -1;
        }
        return lay(now, seen(), ratio(now, kind), k).tell(what);
    }

    int hit(int kind, int k, int m) {
        if (kind < 0 || kind > 4 || k < 0 || k >= seen().size() || m < 0) {
            return -1;
        }
        Comb c = lay(now, seen(), ratio(now, kind), k);
        if (m >= c.marks.size()) {
            return -3;
        }
        return c.marks.get(m) < 0 ? -2 : c.marks.get(m);
    }

    int best(int kind, int what) {
        if (kind < 0 || kind > 4 || what < 0 || what > 6) {
            return -1;
        }
        Comb c = best(kind);
        return c == null ? -2 : c.tell(what);
    }

    int side(int kind, int by) {
        if (kind < 0 || kind > 4 || by < -3 || by > 3) {
            return -1;
        }
        long[] r = ratio(now, kind);
        r[0] += by * r[1];
        Comb c = r[0] <= 0 ? null : best(now, seen(), r);
        return c == null ? -2 : c.hits().size();
    }

    int shared(int one, int other) {
        if (one < 0 || one > 4 || other < 0 || other > 4) {
            return -1;
        }
        Comb a = best(one);
        Comb b = best(other);
        if (a == null || b == null) {
            return -2;
        }
        TreeSet<Integer> common = new TreeSet<>(a.hits());
        common.retainAll(b.hits());
        return common.size();
    }

    int both(int one, int other, int what) {
        if (one < 0 || one > 4 || other < 0 || other > 4 || one == other || what < 0 || what > 2) {
            return -1;
        }
        int[] most = {-2, -2, -2};
        for (Comb a : combs(now, seen(), ratio(now, one))) {
            for (Comb b : combs(now, seen(), ratio(now, other))) {
                TreeSet<Integer> all = new TreeSet<>(a.hits());
                all.addAll(b.hits());
                if (all.size() > most[0]) {
                    most = new int[] {all.size(), a.from, b.from};
                }
            }
        }
        return most[what];
    }

    int window(int i, int w, int kind, int what) {
        if (w < 1 || w > 8 || i < 0 || i >= w || kind < 0 || kind > 4 || what < 0 || what > 2) {
            return -1;
        }
        List<Knock> row = seen();
        if (row.isEmpty()) {
            return -2;
        }
        int first = row.get(0).tick;
        int wide = row.get(row.size() - 1).tick - first + 1;
        List<Knock> in = new ArrayList<>();
        for (Knock k : row) {
            if ((k.tick - first) * w / wide == i) {
                in.add(k);
            }
        }
        if (what == 2) {
            return in.size();
        }
        Comb c = best(now, in, ratio(now, kind));
        return c == null ? -2 : what == 0 ? c.hits().size() : c.score();
    }

    /** Of a chain: how many, the last one, periods. */
    private int[] chain(int kind, int from) {
        List<Knock> row = seen();
        long[] r = ratio(now, kind);
        long period = 1000000 * r[1];
        int[] told = {1, from, 0};
        boolean goes = true;
        while (goes) {
            goes = false;
            for (int g = 1; g <= now.options[2] + 1 && !goes; g++) {
                long target = angle(now, row.get(told[1]).tick) * r[0] + g * period;
                int nearest = -1;
                long off = Long.MAX_VALUE;
                for (int k = told[1] + 1; k < row.size(); k++) {
                    long away = Math.abs(angle(now, row.get(k).tick) * r[0] - target);
                    if (away < off) {
                        off = away;
                        nearest = k;
                    }
                }
                java.math.BigInteger reach = big(period).multiply(big(Math.min(490, g * now.options[0])));
                if (nearest >= 0 && big(off).multiply(big(1000)).compareTo(reach) <= 0) {
                    told = new int[] {told[0] + 1, nearest, told[2] + g};
                    goes = true;
                }
            }
        }
        return told;
    }

    int chain(int kind, int k, int what) {
        if (kind < 0 || kind > 4 || k < 0 || k >= seen().size() || what < 0 || what > 2) {
            return -1;
        }
        return chain(kind, k)[what];
    }

    int longest(int kind, int what) {
        if (kind < 0 || kind > 4 || what < 0 || what > 3) {
            return -1;
        }
        int most = -2;
        for (int k = 0; k < seen().size(); k++) {
            if (most < 0 || chain(kind, k)[0] > chain(kind, most)[0]) {
                most = k;
            }
        }
        return most < 0 || what == 3 ? most : chain(kind, most)[what];
    }

    int folded(int kind, int by, int eighth) {
        if (kind < 0 || kind > 4 || by < 0 || by > 4 || eighth < 0 || eighth > 8) {
            return -1;
        }
        Comb c = best(kind);
        if (c == null) {
            return -2;
        }
        int[] sums = new int[8];
        int all = 0;
        long[] r = ratio(now, by);
        long first = angle(now, seen().get(c.hits().get(0)).tick);
        for (int k : c.hits()) {
            Knock knock = seen().get(k);
            long eighths = (angle(now, knock.tick) - first) * r[0] * 8 / (1000000 * r[1]);
            sums[(int) (eighths % 8)] += knock.strength;
            all += knock.strength;
        }
        if (eighth < 8) {
            return sums[eighth];
        }
        java.util.Arrays.sort(sums);
        return (sums[7] - sums[0]) * 1000 / all;
    }

    /** Kinds (those asked for) as they are ranked, by some knocks. */
    private static List<Integer> ranked(State s, List<Knock> row, List<Integer> kinds) {
        List<Integer> order = new ArrayList<>(kinds);
        Comb[] bests = new Comb[5];
        for (int kind : kinds) {
            bests[kind] = row.isEmpty() ? null : best(s, row, ratio(s, kind));
        }
        order.sort(Comparator.comparing((Integer kind) -> bests[kind] == null ? 1 : 0)
            .thenComparing(kind -> bests[kind] == null ? 0 : -bests[kind].hits().size())
            .thenComparing(kind -> bests[kind] == null ? 0 : -bests[kind].score())
            .thenComparing(kind -> kind));
        return order;
    }

    int ranked(int i) {
        return i < 0 || i > 4 ? -1 : ranked(now, seen(), List.of(0, 1, 2, 3, 4)).get(i);
    }

    /** Of each fault found what fault() tells; at the end how many knocks are left. */
    private static List<int[]> found(State s, List<Knock> all) {
        List<int[]> told = new ArrayList<>();
        List<Integer> kinds = new ArrayList<>(List.of(0, 1, 2, 3, 4));
        List<Knock> row = new ArrayList<>(all);
        while (!kinds.isEmpty()) {
            int kind = ranked(s, row, kinds).get(0);
            Comb c = row.isEmpty() ? null : best(s, row, ratio(s, kind));
            if (c == null || c.hits().size() < s.options[3] || c.score() < s.options[4]) {
                break;
            }
            told.add(new int[] {kind, c.hits().size(), c.marks.size(), c.score(),
                row.get(c.hits().get(0)).tick, c.strengths()});
            List<Knock> gone = new ArrayList<>();
            for (int k : c.hits()) {
                gone.add(row.get(k));
            }
            row.removeAll(gone);
            kinds.remove((Integer) kind);
        }
        told.add(new int[] {row.size()});
        return told;
    }

    int faults(int what) {
        List<int[]> told = found(now, seen());
        return what == 0 ? told.size() - 1 : what == 1 ? told.get(told.size() - 1)[0] : -1;
    }

    int fault(int i, int what) {
        if (i < 0 || what < 0 || what > 5) {
            return -1;
        }
        List<int[]> told = found(now, seen());
        return i >= told.size() - 1 ? -2 : told.get(i)[what];
    }

    int report(int i, int k) {
        if (i < 0 || k < -1) {
            return -1;
        }
        List<int[]> told = found(now, seen());
        if (i >= told.size() - 1) {
            return -2;
        }
        int[] f = told.get(i);
        String s = NAMES[f[0]] + " " + f[1] + "/" + f[2] + " " + f[3] / 10 + "." + f[3] % 10 + "%";
        return k == -1 ? s.length() : k < s.length() ? s.charAt(k) : -4;
    }

    int apart(int one, int other) {
        if (one < 0 || one > 4 || other < 0 || other > 4 || one == other) {
            return -1;
        }
        long[] a = ratio(now, Math.min(one, other));
        long[] b = ratio(now, Math.max(one, other));
        if (a[1] * b[0] < b[1] * a[0]) {
            long[] c = a;
            a = b;
            b = c;
        }
        for (int m = 1; m <= 400; m++) {
            // Places times both upper numbers.
            long mark = m * a[1] * b[0];
            boolean far = true;
            for (long i = Math.max(0, mark / (b[1] * a[0]) - 2); i <= mark / (b[1] * a[0]) + 2; i++) {
                long off = Math.abs(mark - i * b[1] * a[0]);
                far &= off * 1000 > now.options[0] * (a[1] * b[0] + b[1] * a[0]);
            }
            if (far) {
                return m;
            }
        }
        return -2;
    }

    int lag(int l, int t) {
        if (l < 1 || l > 9999 || t < 0 || t > 99) {
            return -1;
        }
        int sum = 0;
        List<Knock> row = seen();
        for (int i = 0; i < row.size(); i++) {
            for (int j = 0; j < i; j++) {
                if (Math.abs(row.get(i).tick - row.get(j).tick - l) <= t) {
                    sum++;
                }
            }
        }
        return sum;
    }

    int lags(int low, int high, int t, int what) {
        if (low < 1 || high > 9999 || low > high || high - low + 1L > 500 || t < 0 || t > 99 || what < 0 || what > 1) {
            return -1;
        }
        int which = low;
        int most = lag(low, t);
        for (int l = low + 1; l <= high; l++) {
            int many = lag(l, t);
            if (many > most) {
                most = many;
                which = l;
            }
        }
        return what == 0 ? which : most;
    }

    int nearest(int l, int what) {
        if (l < 1 || l > 9999 || what < 0 || what > 2) {
            return -1;
        }
        int[] told = {0, 0, 0};
        long above = Long.MAX_VALUE;
        long below = 1;
        for (int kind = 0; kind < 5; kind++) {
            long[] r = ratio(now, kind);
            for (int times = 1; times <= 4; times++) {
                long off = Math.abs(l * r[0] - times * now.turn * r[1]);
                if (big(off).multiply(big(below)).compareTo(big(above).multiply(big(r[0]))) < 0) {
                    above = off;
                    below = r[0];
                    told = new int[] {kind, times, (int) (off * 100 / r[0])};
                }
            }
        }
        return told[what];
    }

    /** Whether tried() would look at combs with too many marks. */
    boolean isTriedTooMuch(int balls, int ball, int ring, int turn) {
        return canBe(balls, ball, ring) && !seen().isEmpty() && isTooMuch(triedState(balls, ball, ring, turn), seen());
    }

    private State triedState(int balls, int ball, int ring, int turn) {
        State s = now.copy();
        s.balls = balls;
        s.ball = ball;
        s.ring = ring;
        s.turn = turn == 0 ? now.turn : Math.max(20, turn);
        return s;
    }

    int tried(int balls, int ball, int ring, int turn, int what) {
        if (!canBe(balls, ball, ring) || turn != 0 && (turn < 20 || turn > 5000) || what < 0 || what > 2) {
            return -1;
        }
        State s = triedState(balls, ball, ring, turn);
        if (what == 2) {
            return found(s, seen()).size() - 1;
        }
        int kind = ranked(s, seen(), List.of(0, 1, 2, 3, 4)).get(0);
        Comb c = seen().isEmpty() ? null : best(s, seen(), ratio(s, kind));
        return what == 0 ? kind : c == null ? 0 : c.hits().size();
    }

    int bestTurn(int kind, int low, int high, int what) {
        if (kind < 0 || kind > 4 || low < 20 || high > 5000 || low > high || high - low > 199 || what < 0 || what > 1) {
            return -1;
        }
        int[] told = {-2, -2};
        int score = -1;
        for (int turn = low; turn <= high; turn++) {
            State s = now.copy();
            s.turn = turn;
            Comb c = seen().isEmpty() ? null : best(s, seen(), ratio(s, kind));
            if (c != null && (c.hits().size() > told[1] || c.hits().size() == told[1] && c.score() > score)) {
                told = new int[] {turn, c.hits().size()};
                score = c.score();
            }
        }
        return told[what];
    }

    int check(int n) {
        if (n < 0 || n > 5 || n > tape.size()) {
            return -2;
        }
        String text = take(n);
        for (int kind = 0; kind < n; kind++) {
            Comb c = best(kind);
            if (text.charAt(kind) != (c == null ? 255 : c.score() / 10)) {
                return kind;
            }
        }
        return -1;
    }
}
