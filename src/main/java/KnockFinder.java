import java.util.Arrays;

/** Tells by the times of knocks which part of a bearing is likely to be hurt. */
public final class KnockFinder {
    public static final int NONE = -1;

    private static final int NOT_THERE = -2;
    private static final int FULL = -3;
    private static final int TOO_FEW = -3;
    private static final int NO_SUCH_MARK = -3;
    private static final int TOO_LATE = -4;
    private static final int NOT_LATER = -4;
    private static final int NO_SUCH_BYTE = -4;
    private static final long NO_LINE = 1L << 63;

    private static final int OUTER = 0;
    private static final int INNER = 1;
    private static final int BALL = 2;
    private static final int CAGE = 3;
    private static final int KINDS = 5;
    private static final int NOTE_WIDE = 2 * KINDS;

    private static final int SLIP = 0;
    private static final int DRIFT = 1;
    private static final int MISS = 2;
    private static final int LEAST_HITS = 3;
    private static final int LEAST_SCORE = 4;
    private static final int OPTIONS = 5;
    private static final int[] OPTION_LOW = {0, 0, 0, 2, 0};
    private static final int[] OPTION_HIGH = {490, 50, 5, 50, 1000};

    private static final int BYTES_A_FEED = 20;
    private static final int MOST_BYTES = 240;
    private static final int MOST_TRACE = 200;
    private static final int MOST_FILTERS = 60;
    private static final int MOST_SPEEDS = 100;
    private static final int MOST_KNOCKS = 200;
    private static final int MOST_SPANS = 10;
    private static final int MOST_STEPS = 10;
    private static final int MOST_NOTES = 20;
    private static final int MOST_ACTS = 8;
    private static final int MOST_STRENGTH = 99;
    private static final int LAST_TICK = 99999;
    private static final int LAST_DAY = 9999;
    private static final int LAST_DUE = 99999;
    private static final int MOST_LAG = 9999;
    private static final int MOST_LAGS = 500;
    private static final int MOST_WITHIN = 99;
    private static final int MOST_TURNS = 200;
    private static final int LEAST_TURN = 20;
    private static final int LONGEST_TURN = 5000;
    private static final int MOST_APART = 400;
    private static final int MOST_OFF = 490;
    private static final int EIGHTHS = 8;
    private static final int WORDS = 4;
    private static final long FULL_TURN = 1000000;

    private final Tape tape = new Tape();
    private State now = new State();
    private State draft = new State();
    private final State[] past = new State[MOST_ACTS];
    private int pastNext = 0;
    private int undoable = 0;

    private final Knocks seen = new Knocks();
    private final Knocks aside = new Knocks();
    private final Ratio ratio = new Ratio();
    private final Ratio otherRatio = new Ratio();
    private final Comber comber = new Comber();
    private final Chains chains = new Chains();
    private final Masks masks = new Masks();
    private final Masks otherMasks = new Masks();
    private final Verdict verdict = new Verdict();
    private final Verdict verdictAside = new Verdict();
    private final int[] eighths = new int[EIGHTHS];
    private final int[] pairs = new int[MOST_LAGS + 2 * MOST_WITHIN + 1];

    public KnockFinder() {
        for (int i = 0; i < MOST_ACTS; i++) {
            past[i] = new State();
        }
    }

    // ---- the tape and what there is ----

    public int feed(int a, int b, int c, int d, int e) {
        if (tape.count + BYTES_A_FEED > MOST_BYTES) {
            return NONE;
        }
        tape.put(a);
        tape.put(b);
        tape.put(c);
        tape.put(d);
        tape.put(e);
        return tape.count;
    }

    public int get(int what) {
        if (isOption(what)) {
            return now.options[what];
        }
        switch (what) {
            case 5: return now.balls;
            case 6: return now.ball;
            case 7: return now.ring;
            case 8: return now.turn;
            case 9: return now.knocks.count;
            case 10: return seen.count;
            case 11: return now.steps.count;
            case 12: return tape.count;
            case 13: return undoable;
            case 14: return now.spans.count;
            case 15: return now.notes.count;
            default: return NONE;
        }
    }

    public long angle(int tick) {
        return tick < 0 || tick > LAST_TICK ? NONE : now.spans.angleOf(tick, now.turn);
    }

    public int knock(int k, int what) {
        if (!isSeen(k) || what < 0 || what > 2) {
            return NONE;
        }
        switch (what) {
            case 0: return seen.ticks[k];
            case 1: return seen.strengths[k];
            default: return k > 0 ? seen.ticks[k] - seen.ticks[k - 1] : NOT_THERE;
        }
    }

    public int ratio(int kind, int what) {
        if (!isKind(kind) || what < 0 || what > 2) {
            return NONE;
        }
        now.rate(kind, ratio);
        switch (what) {
            case 0: return (int) ratio.above;
            case 1: return (int) ratio.below;
            default: return (int) (now.turn * 100 * ratio.below / Math.max(1, ratio.above));
        }
    }

    private static boolean isKind(int kind) {
        return kind >= 0 && kind < KINDS;
    }

    private static boolean isOption(int what) {
        return what >= 0 && what < OPTIONS;
    }

    private static boolean isTurn(int ticks) {
        return ticks >= LEAST_TURN && ticks <= LONGEST_TURN;
    }

    private static boolean isBearing(int balls, int ball, int ring) {
        return balls >= 3 && balls <= 30 && ball >= 1 && ball <= 98
            && ring >= 2 && ring <= 999 && ring > ball;
    }

    private boolean isSeen(int k) {
        return k >= 0 && k < seen.count;
    }

    // ---- acts ----

    public int bearing(int balls, int ball, int ring) {
        if (!isBearing(balls, ball, ring)) {
            return NONE;
        }
        beginAct();
        draft.measure(balls, ball, ring);
        endAct();
        return 0;
    }

    public int turn(int ticks) {
        if (!isTurn(ticks)) {
            return NONE;
        }
        int before = now.turn;
        beginAct();
        draft.turn = ticks;
        endAct();
        return before;
    }

    public int speeds(int n) {
        if (!tape.has(n, 0, MOST_SPEEDS)) {
            return NONE;
        }
        tape.take(n);
        beginAct();
        draft.spans.read(tape);
        if (tape.fault != 0) {
            return tape.fault;
        }
        endAct();
        return now.spans.count;
    }

    public int trace(int n) {
        if (!tape.has(n, 1, MOST_TRACE)) {
            return NONE;
        }
        tape.take(n);
        tape.proofItems();
        if (tape.fault != 0) {
            return tape.fault;
        }
        beginAct();
        int refused = tape.layItems(draft.knocks);
        if (refused != 0) {
            return refused;
        }
        endAct();
        return now.knocks.count;
    }

    public int filters(int n) {
        if (!tape.has(n, 0, MOST_FILTERS)) {
            return NONE;
        }
        tape.take(n);
        beginAct();
        draft.steps.read(tape);
        if (tape.fault != 0) {
            return tape.fault;
        }
        endAct();
        return seen.count;
    }

    public int set(int what, int v) {
        if (!isOption(what) || v < OPTION_LOW[what] || v > OPTION_HIGH[what]) {
            return NONE;
        }
        int before = now.options[what];
        beginAct();
        draft.options[what] = v;
        endAct();
        return before;
    }

    public int drop(int k) {
        if (k < 0 || k >= now.knocks.count) {
            return NONE;
        }
        beginAct();
        draft.knocks.takeOut(k);
        endAct();
        return now.knocks.count;
    }

    public int note(int day) {
        if (day < 0 || day > LAST_DAY) {
            return NONE;
        }
        if (now.notes.count >= MOST_NOTES) {
            return FULL;
        }
        if (now.notes.count > 0 && day <= now.notes.lastDay()) {
            return NOT_LATER;
        }
        beginAct();
        draft.notes.begin(day);
        for (int kind = 0; kind < KINDS; kind++) {
            if (layBest(kind)) {
                draft.notes.write(kind, comber.hits, comber.strengthsOf(seen));
            }
        }
        endAct();
        return now.notes.count;
    }

    public int undo() {
        if (undoable <= 0) {
            return NONE;
        }
        pastNext = (pastNext + MOST_ACTS - 1) % MOST_ACTS;
        State back = past[pastNext];
        past[pastNext] = now;
        now = back;
        undoable--;
        refresh();
        return undoable;
    }

    /** An act changes a copy, so that one that is refused on its way changes nothing. */
    private void beginAct() {
        draft.copy(now);
    }

    private void endAct() {
        State oldest = past[pastNext];
        past[pastNext] = now;
        now = draft;
        draft = oldest;
        pastNext = (pastNext + 1) % MOST_ACTS;
        undoable = Math.min(undoable + 1, MOST_ACTS);
        refresh();
    }

    private void refresh() {
        seen.copy(now.knocks);
        now.steps.filter(seen);
        verdict.forget();
    }

    // ---- combs ----

    public int comb(int kind, int k, int what) {
        if (!isKind(kind) || !isSeen(k) || what < 0 || what > 5) {
            return NONE;
        }
        ready(seen, now, kind);
        comber.lay(k);
        return comber.tell(seen, what);
    }

    public int hit(int kind, int k, int m) {
        if (!isKind(kind) || !isSeen(k) || m < 0) {
            return NONE;
        }
        ready(seen, now, kind);
        comber.lay(k);
        return m < comber.marks ? comber.knockOf(m) : NO_SUCH_MARK;
    }

    public int best(int kind, int what) {
        if (!isKind(kind) || what < 0 || what > 6) {
            return NONE;
        }
        if (!layBest(kind)) {
            return NOT_THERE;
        }
        return what == 6 ? verdict.knocks[kind] : comber.tell(seen, what);
    }

    public int side(int kind, int by) {
        if (!isKind(kind) || by < -3 || by > 3) {
            return NONE;
        }
        now.rate(kind, ratio);
        if (!ratio.add(by)) {
            return NOT_THERE;
        }
        comber.prepare(seen, now, ratio);
        comber.findBest();
        return comber.bestKnock < 0 ? NOT_THERE : comber.bestHits;
    }

    public int shared(int one, int other) {
        if (!isKind(one) || !isKind(other)) {
            return NONE;
        }
        if (!layBest(one)) {
            return NOT_THERE;
        }
        masks.put(0, comber);
        if (!layBest(other)) {
            return NOT_THERE;
        }
        otherMasks.put(0, comber);
        return masks.common(0, otherMasks, 0);
    }

    public int both(int one, int other, int what) {
        if (!isKind(one) || !isKind(other) || one == other || what < 0 || what > 2) {
            return NONE;
        }
        ready(seen, now, one);
        masks.putAll(comber);
        ready(seen, now, other);
        otherMasks.putAll(comber);
        masks.findPair(otherMasks);
        if (masks.most == 0) {
            return NOT_THERE;
        }
        switch (what) {
            case 0: return masks.most;
            case 1: return masks.mostRow;
            default: return masks.mostOtherRow;
        }
    }

    public int window(int i, int w, int kind, int what) {
        if (w < 1 || w > 8 || i < 0 || i >= w || !isKind(kind) || what < 0 || what > 2) {
            return NONE;
        }
        if (seen.count == 0) {
            return NOT_THERE;
        }
        aside.cutFrom(seen, i, w);
        if (what == 2) {
            return aside.count;
        }
        ready(aside, now, kind);
        comber.findBest();
        if (comber.bestKnock < 0) {
            return NOT_THERE;
        }
        return what == 0 ? comber.bestHits : comber.bestScore;
    }

    public int folded(int kind, int by, int eighth) {
        if (!isKind(kind) || !isKind(by) || eighth < 0 || eighth > EIGHTHS) {
            return NONE;
        }
        if (!layBest(kind)) {
            return NOT_THERE;
        }
        now.rate(by, otherRatio);
        foldHits(otherRatio);
        return eighth < EIGHTHS ? eighths[eighth] : depthOfEighths();
    }

    private void foldHits(Ratio by) {
        Arrays.fill(eighths, 0);
        long period = Math.max(1, FULL_TURN * by.below);
        long first = now.spans.angleOf(comber.tickOfHit(seen, 0), now.turn);
        for (int i = 0; i < comber.hits; i++) {
            long behind = now.spans.angleOf(comber.tickOfHit(seen, i), now.turn) - first;
            int eighth = (int) (behind * by.above % period * EIGHTHS / period);
            if (eighth >= 0 && eighth < EIGHTHS) {
                eighths[eighth] += seen.strengths[comber.hitKnocks[i]];
            }
        }
    }

    private int depthOfEighths() {
        int all = 0;
        int most = eighths[0];
        int least = eighths[0];
        for (int i = 0; i < EIGHTHS; i++) {
            all += eighths[i];
            most = Math.max(most, eighths[i]);
            least = Math.min(least, eighths[i]);
        }
        return all == 0 ? 0 : (most - least) * 1000 / all;
    }

    public int apart(int one, int other) {
        if (!isKind(one) || !isKind(other) || one == other) {
            return NONE;
        }
        now.rate(one, ratio);
        now.rate(other, otherRatio);
        // Both periods in like parts of a turn; with like periods no mark is ever apart.
        long ones = ratio.below * otherRatio.above;
        long others = otherRatio.below * ratio.above;
        long longer = Math.max(ones, others);
        long shorter = Math.max(1, Math.min(ones, others));
        long reach = now.options[SLIP] * (longer + shorter);
        for (int m = 1; m <= MOST_APART; m++) {
            long behind = m * longer % shorter;
            long off = Math.min(behind, shorter - behind);
            if (off * 1000 > reach) {
                return m;
            }
        }
        return NOT_THERE;
    }

    /** Makes the comber ready for a kind, by the bearing and speeds of a state. */
    private void ready(Knocks knocks, State state, int kind) {
        state.rate(kind, ratio);
        comber.prepare(knocks, state, ratio);
    }

    private void findBestSeen(int kind) {
        if (!verdict.known[kind]) {
            ready(seen, now, kind);
            comber.findBest();
            verdict.put(kind, comber);
        }
    }

    /** Lays the best comb of a kind on what is seen; false: it has none. */
    private boolean layBest(int kind) {
        findBestSeen(kind);
        if (verdict.knocks[kind] < 0) {
            return false;
        }
        ready(seen, now, kind);
        comber.lay(verdict.knocks[kind]);
        return true;
    }

    // ---- chains ----

    public int chain(int kind, int k, int what) {
        if (!isKind(kind) || !isSeen(k) || what < 0 || what > 2) {
            return NONE;
        }
        now.rate(kind, ratio);
        chains.follow(seen, now, ratio);
        return chains.tell(k, what);
    }

    public int longest(int kind, int what) {
        if (!isKind(kind) || what < 0 || what > 3) {
            return NONE;
        }
        if (seen.count == 0) {
            return NOT_THERE;
        }
        now.rate(kind, ratio);
        chains.follow(seen, now, ratio);
        int k = chains.knockOfMost();
        return what == 3 ? k : chains.tell(k, what);
    }

    // ---- ranks and faults ----

    public int ranked(int i) {
        if (!isKind(i)) {
            return NONE;
        }
        for (int kind = 0; kind < KINDS; kind++) {
            findBestSeen(kind);
        }
        return verdict.kindAt(i);
    }

    public int faults(int what) {
        if (what != 0 && what != 1) {
            return NONE;
        }
        peel(verdict, now);
        return what == 0 ? verdict.count : verdict.left;
    }

    public int fault(int i, int what) {
        if (i < 0 || what < 0 || what > 5) {
            return NONE;
        }
        peel(verdict, now);
        return i < verdict.count ? verdict.tell(i, what) : NOT_THERE;
    }

    public int report(int i, int k) {
        if (i < 0 || k < -1) {
            return NONE;
        }
        peel(verdict, now);
        if (i >= verdict.count) {
            return NOT_THERE;
        }
        StringBuilder told = new StringBuilder();
        verdict.write(i, told);
        if (k == -1) {
            return told.length();
        }
        return k < told.length() ? told.charAt(k) : NO_SUCH_BYTE;
    }

    public int tried(int balls, int ball, int ring, int turn, int what) {
        if (!isBearing(balls, ball, ring) || turn != 0 && !isTurn(turn) || what < 0 || what > 2) {
            return NONE;
        }
        // A draft that no act takes over.
        draft.copy(now);
        draft.measure(balls, ball, ring);
        draft.turn = turn == 0 ? now.turn : turn;
        if (what == 2) {
            verdictAside.forget();
            peel(verdictAside, draft);
            return verdictAside.count;
        }
        aside.copy(seen);
        int kind = firstAside(draft, 0);
        return what == 0 ? kind : verdictAside.hits[kind];
    }

    public int bestTurn(int kind, int low, int high, int what) {
        if (!isKind(kind) || !isTurn(low) || !isTurn(high) || what != 0 && what != 1) {
            return NONE;
        }
        if (low > high || high - low >= MOST_TURNS) {
            return NONE;
        }
        draft.copy(now);
        int turn = NOT_THERE;
        int hits = NOT_THERE;
        int score = 0;
        for (int t = low; t <= high; t++) {
            draft.turn = t;
            ready(seen, draft, kind);
            comber.findBest();
            boolean more = comber.bestHits > hits || comber.bestHits == hits && comber.bestScore > score;
            if (comber.bestKnock >= 0 && more) {
                turn = t;
                hits = comber.bestHits;
                score = comber.bestScore;
            }
        }
        return what == 0 ? turn : hits;
    }

    public int check(int n) {
        if (!tape.has(n, 0, KINDS)) {
            return NOT_THERE;
        }
        tape.take(n);
        for (int kind = 0; kind < n; kind++) {
            findBestSeen(kind);
            int right = verdict.knocks[kind] < 0 ? 255 : verdict.scores[kind] / 10;
            if (tape.sign() != right) {
                return kind;
            }
            tape.place++;
        }
        return NONE;
    }

    /** Finds faults, unless they are known, and takes their hits out of a copy of what is seen. */
    private void peel(Verdict into, State state) {
        if (into.peeled) {
            return;
        }
        aside.copy(seen);
        into.count = 0;
        into.peeled = true;
        int gone = 0;
        for (int round = 0; round < KINDS; round++) {
            int kind = firstAside(state, gone);
            if (verdictAside.hits[kind] < state.options[LEAST_HITS]
                || verdictAside.scores[kind] < state.options[LEAST_SCORE]) {
                break;
            }
            ready(aside, state, kind);
            comber.lay(verdictAside.knocks[kind]);
            into.add(kind, comber, aside);
            aside.takeOutAll(comber.hitKnocks, comber.hits);
            gone |= 1 << kind;
        }
        into.left = aside.count;
    }

    /** The kind ranked first by what is aside, but for those gone (a bit each). */
    private int firstAside(State state, int gone) {
        int first = -1;
        for (int kind = 0; kind < KINDS; kind++) {
            if ((gone >> kind & 1) == 0) {
                ready(aside, state, kind);
                comber.findBest();
                verdictAside.put(kind, comber);
                if (first < 0 || verdictAside.isAhead(kind, first)) {
                    first = kind;
                }
            }
        }
        return Math.max(first, 0);
    }

    // ---- lags ----

    public int lag(int l, int t) {
        if (!areLags(l, l, t)) {
            return NONE;
        }
        sumPairs(l, l, t);
        return pairsAt(0, t);
    }

    public int lags(int low, int high, int t, int what) {
        if (!areLags(low, high, t) || what != 0 && what != 1) {
            return NONE;
        }
        sumPairs(low, high, t);
        int most = 0;
        for (int i = 1; i <= high - low; i++) {
            if (pairsAt(i, t) > pairsAt(most, t)) {
                most = i;
            }
        }
        return what == 0 ? low + most : pairsAt(most, t);
    }

    private static boolean areLags(int low, int high, int t) {
        return low >= 1 && high <= MOST_LAG && low <= high && high - low < MOST_LAGS
            && t >= 0 && t <= MOST_WITHIN;
    }

    /** Counts pairs by difference, from low - t on, then sums them up, each with all ahead. */
    private void sumPairs(int low, int high, int t) {
        Arrays.fill(pairs, 0);
        int from = low - t;
        int last = high + t;
        for (int i = 0; i < seen.count; i++) {
            for (int j = i + 1; j < seen.count && seen.ticks[j] - seen.ticks[i] <= last; j++) {
                int place = seen.ticks[j] - seen.ticks[i] - from + 1;
                if (place >= 1 && place < pairs.length) {
                    pairs[place]++;
                }
            }
        }
        for (int i = 1; i < pairs.length; i++) {
            pairs[i] += pairs[i - 1];
        }
    }

    /** The pairs of the i-th lag of those summed up: of 2 t + 1 differences. */
    private int pairsAt(int i, int t) {
        int end = i + 2 * t + 1;
        return i >= 0 && end < pairs.length ? pairs[end] - pairs[i] : 0;
    }

    public int nearest(int l, int what) {
        if (l < 1 || l > MOST_LAG || what < 0 || what > 2) {
            return NONE;
        }
        int nearestKind = 0;
        int nearestTimes = 0;
        Ratio nearestOff = otherRatio;
        for (int kind = 0; kind < KINDS; kind++) {
            now.rate(kind, ratio);
            for (int times = 1; times <= 4; times++) {
                long off = Math.abs(l * ratio.above - (long) times * now.turn * ratio.below);
                if (nearestTimes == 0 || off * nearestOff.below < nearestOff.above * ratio.above) {
                    nearestOff.become(off, ratio.above);
                    nearestKind = kind;
                    nearestTimes = times;
                }
            }
        }
        switch (what) {
            case 0: return nearestKind;
            case 1: return nearestTimes;
            default: return (int) (nearestOff.above * 100 / Math.max(1, nearestOff.below));
        }
    }

    // ---- notes ----

    public int noteIs(int i, int what) {
        if (i < 0 || i >= now.notes.count || what < 0 || what > NOTE_WIDE) {
            return NONE;
        }
        return what == 0 ? now.notes.days[i] : now.notes.told[i * NOTE_WIDE + what - 1];
    }

    public long line(int kind, int what) {
        if (!isKind(kind) || what < 0 || what > 2 || now.notes.count < 2) {
            return NO_LINE;
        }
        now.notes.fit(kind, ratio);
        switch (what) {
            case 0: return ratio.above;
            case 1: return ratio.below;
            default: return now.notes.floorAtLast(kind, ratio);
        }
    }

    public int due(int kind, int limit) {
        if (!isKind(kind) || limit < 0 || limit > LAST_DUE) {
            return NONE;
        }
        if (now.notes.count < 2) {
            return TOO_FEW;
        }
        now.notes.fit(kind, ratio);
        return now.notes.firstDayAt(limit, kind, ratio);
    }

    // ---- classes inside ----

    /** A fraction in lowest terms, its lower number above 0. */
    private static final class Ratio {
        long above = 1;
        long below = 1;

        void become(long over, long under) {
            long common = Math.max(1, divisor(Math.abs(over), under));
            above = over / common;
            below = under / common;
        }

        /** Adds whole ones if it stays above 0. */
        boolean add(int ones) {
            if (above + ones * below <= 0) {
                return false;
            }
            above += ones * below;
            return true;
        }

        private static long divisor(long one, long other) {
            long a = one;
            long b = other;
            // Euclid needs fewer than a hundred rounds for any two longs.
            for (int i = 0; i < 200 && b != 0; i++) {
                long rest = a % b;
                a = b;
                b = rest;
            }
            return a;
        }
    }

    /** The bytes that were fed, and the text that is read from their front. */
    private static final class Tape {
        private static final int DEEPEST = 3;
        // Far above what 200 knocks within three rounds can need.
        private static final int MOST_ITEMS = 100000;
        private final int[] bytes = new int[MOST_BYTES];
        int count = 0;
        private int length = 0;
        int place = 0;
        int fault = 0;
        private final int[] begins = new int[DEEPEST];
        private final int[] laid = new int[DEEPEST];

        void put(int four) {
            for (int shift = 24; shift >= 0 && count < MOST_BYTES; shift -= 8) {
                bytes[count] = (four >> shift) & 255;
                count++;
            }
        }

        boolean has(int n, int least, int most) {
            return n >= least && n <= most && n <= count;
        }

        /** The first n bytes become the text; they stay in the row till more are fed. */
        void take(int n) {
            length = Math.max(0, Math.min(n, count));
            count = 0;
            place = 0;
            fault = 0;
        }

        boolean hasEnded() {
            return place >= length;
        }

        /** The byte that stands here, or -1 at the end. */
        int sign() {
            return place >= 0 && place < length ? bytes[place] : -1;
        }

        /** Of several faults that are told the first one stays. */
        void refuse(int number, int at) {
            if (fault == 0) {
                fault = -1000 * number - at;
            }
        }

        private static boolean isDigit(int sign) {
            return sign >= '0' && sign <= '9';
        }

        int readNumber(int digits) {
            if (!isDigit(sign())) {
                refuse(1, place);
            }
            int value = 0;
            for (int i = 0; i < digits && isDigit(sign()); i++) {
                value = value * 10 + sign() - '0';
                place++;
            }
            if (isDigit(sign())) {
                refuse(2, place);
            }
            return value;
        }

        void pass(int low, int high) {
            int sign = sign();
            if (sign >= low && sign <= high) {
                place++;
            } else {
                refuse(1, place);
            }
        }

        /** Whether an i-th part is to be read, of parts with a ; between two. */
        boolean hasPart(int i, int most) {
            if (fault != 0 || hasEnded()) {
                return false;
            }
            if (i > 0) {
                pass(';', ';');
            }
            if (i >= most) {
                refuse(4, place);
            }
            return fault == 0;
        }

        /** Looks for faults of a trace. */
        void proofItems() {
            int open = 0;
            boolean empty = true;
            for (int i = 0; i <= MOST_TRACE && fault == 0; i++) {
                int sign = sign();
                if (hasEnded() && open == 0 && !empty) {
                    break;
                }
                if (isDigit(sign)) {
                    proofKnock();
                    empty = false;
                } else if (sign == '(') {
                    if (open >= DEEPEST) {
                        refuse(5, place);
                    }
                    open++;
                    empty = true;
                    place++;
                } else if (sign == ')' && open > 0 && !empty) {
                    open--;
                    place++;
                    pass('2', '9');
                } else {
                    refuse(1, place);
                }
            }
        }

        private void proofKnock() {
            int start = place;
            if (readNumber(3) == 0) {
                refuse(3, start);
            }
            pass('a', 'z');
        }

        /** Lays the knocks of a trace without faults; 0, or why they can't all come. */
        int layItems(Knocks into) {
            int open = 0;
            int refused = 0;
            place = 0;
            for (int i = 0; i < MOST_ITEMS && refused == 0 && !hasEnded(); i++) {
                int sign = sign();
                if (sign == '(') {
                    open = enterRounds(open);
                } else if (sign == ')') {
                    open = endRound(open);
                } else {
                    refused = layKnock(into);
                }
            }
            return refused;
        }

        private int enterRounds(int open) {
            place++;
            if (open < 0 || open >= DEEPEST) {
                return open;
            }
            begins[open] = place;
            laid[open] = 0;
            return open + 1;
        }

        private int endRound(int open) {
            place++;
            int times = sign() - '0';
            if (open < 1 || open > DEEPEST) {
                return open;
            }
            laid[open - 1]++;
            if (laid[open - 1] < times) {
                place = begins[open - 1];
                return open;
            }
            place++;
            return open - 1;
        }

        private int layKnock(Knocks into) {
            int gap = readNumber(3);
            int strength = sign() - 'a' + 1;
            place++;
            if (into.count >= MOST_KNOCKS) {
                return FULL;
            }
            int tick = into.lastTick() + gap;
            if (tick > LAST_TICK) {
                return TOO_LATE;
            }
            into.add(tick, strength);
            return 0;
        }
    }

    private static final class Spans {
        private final int[] ticks = new int[MOST_SPANS];
        private final int[] turns = new int[MOST_SPANS];
        int count = 0;

        void copy(Spans from) {
            System.arraycopy(from.ticks, 0, ticks, 0, MOST_SPANS);
            System.arraycopy(from.turns, 0, turns, 0, MOST_SPANS);
            count = from.count;
        }

        void read(Tape tape) {
            count = 0;
            for (int i = 0; i <= MOST_SPANS && tape.hasPart(i, MOST_SPANS); i++) {
                readSpan(tape);
            }
        }

        private void readSpan(Tape tape) {
            int start = tape.place;
            int tick = tape.readNumber(5);
            if (count > 0 && count <= MOST_SPANS && tick <= ticks[count - 1]) {
                tape.refuse(3, start);
            }
            tape.pass(':', ':');
            start = tape.place;
            int turn = tape.readNumber(4);
            if (!isTurn(turn)) {
                tape.refuse(3, start);
            }
            if (tape.fault == 0 && count < MOST_SPANS) {
                ticks[count] = tick;
                turns[count] = turn;
                count++;
            }
        }

        long angleOf(int tick, int firstTurn) {
            long sum = 0;
            int from = 0;
            int turn = Math.max(1, firstTurn);
            for (int i = 0; i < count && ticks[i] < tick; i++) {
                sum += (ticks[i] - from) * FULL_TURN / turn;
                from = ticks[i];
                turn = Math.max(1, turns[i]);
            }
            return sum + (tick - from) * FULL_TURN / turn;
        }
    }

    private static final class Knocks {
        final int[] ticks = new int[MOST_KNOCKS];
        final int[] strengths = new int[MOST_KNOCKS];
        int count = 0;

        void copy(Knocks from) {
            System.arraycopy(from.ticks, 0, ticks, 0, from.count);
            System.arraycopy(from.strengths, 0, strengths, 0, from.count);
            count = from.count;
        }

        int lastTick() {
            return count > 0 ? ticks[count - 1] : 0;
        }

        void add(int tick, int strength) {
            if (count < MOST_KNOCKS) {
                ticks[count] = tick;
                strengths[count] = strength;
                count++;
            }
        }

        void takeOut(int k) {
            if (k >= 0 && k < count) {
                System.arraycopy(ticks, k + 1, ticks, k, count - k - 1);
                System.arraycopy(strengths, k + 1, strengths, k, count - k - 1);
                count--;
            }
        }

        /** Takes out those of many numbers that rise. */
        void takeOutAll(int[] numbers, int many) {
            int all = count;
            int next = 0;
            count = 0;
            for (int k = 0; k < all; k++) {
                if (next < many && next < numbers.length && numbers[next] == k) {
                    next++;
                } else {
                    add(ticks[k], strengths[k]);
                }
            }
        }

        /** Becomes window i of w windows of others. */
        void cutFrom(Knocks from, int i, int w) {
            count = 0;
            int first = from.count > 0 ? from.ticks[0] : 0;
            int wide = Math.max(1, from.lastTick() - first + 1);
            for (int k = 0; k < from.count; k++) {
                if ((from.ticks[k] - first) * w / wide == i) {
                    add(from.ticks[k], from.strengths[k]);
                }
            }
        }
    }

    private static final class Steps {
        private static final String LETTERS = "abmkrwxy";
        private final int[] letters = new int[MOST_STEPS];
        private final int[] numbers = new int[MOST_STEPS];
        int count = 0;

        void copy(Steps from) {
            System.arraycopy(from.letters, 0, letters, 0, MOST_STEPS);
            System.arraycopy(from.numbers, 0, numbers, 0, MOST_STEPS);
            count = from.count;
        }

        void read(Tape tape) {
            count = 0;
            for (int i = 0; i <= MOST_STEPS && tape.hasPart(i, MOST_STEPS); i++) {
                readStep(tape);
            }
        }

        private void readStep(Tape tape) {
            int letter = tape.sign();
            if (letter < 0 || LETTERS.indexOf((char) letter) < 0) {
                tape.refuse(1, tape.place);
            }
            tape.place++;
            int start = tape.place;
            int number = tape.readNumber(2);
            if (number == 0 && (letter == 'k' || letter == 'x')) {
                tape.refuse(3, start);
            }
            if (tape.fault == 0 && count < MOST_STEPS) {
                letters[count] = letter;
                numbers[count] = number;
                count++;
            }
        }

        void filter(Knocks knocks) {
            for (int i = 0; i < count; i++) {
                int number = numbers[i];
                switch (letters[i]) {
                    case 'm':
                        merge(knocks, number);
                        break;
                    case 'x':
                        strengthen(knocks, number);
                        break;
                    case 'y':
                        delay(knocks, number);
                        break;
                    default:
                        sift(knocks, letters[i], number);
                        break;
                }
            }
        }

        private static void sift(Knocks knocks, int letter, int number) {
            int all = knocks.count;
            knocks.count = 0;
            for (int k = 0; k < all; k++) {
                if (stays(letter, number, k, knocks.strengths[k])) {
                    knocks.add(knocks.ticks[k], knocks.strengths[k]);
                }
            }
        }

        private static boolean stays(int letter, int number, int k, int strength) {
            switch (letter) {
                case 'a': return strength >= number;
                case 'b': return strength <= number;
                case 'k': return number > 0 && k % number == 0;
                case 'r': return k >= number;
                default: return k < number;
            }
        }

        private static void merge(Knocks knocks, int number) {
            int all = knocks.count;
            knocks.count = 0;
            for (int k = 0; k < all; k++) {
                int last = knocks.count - 1;
                if (last >= 0 && knocks.ticks[k] - knocks.ticks[last] < number) {
                    int sum = knocks.strengths[last] + knocks.strengths[k];
                    knocks.strengths[last] = Math.min(MOST_STRENGTH, sum);
                } else {
                    knocks.add(knocks.ticks[k], knocks.strengths[k]);
                }
            }
        }

        private static void strengthen(Knocks knocks, int number) {
            for (int k = 0; k < knocks.count; k++) {
                int strength = knocks.strengths[k] * number / 10;
                knocks.strengths[k] = Math.max(1, Math.min(MOST_STRENGTH, strength));
            }
        }

        private static void delay(Knocks knocks, int number) {
            for (int k = 0; k < knocks.count; k++) {
                knocks.ticks[k] += number;
            }
        }
    }

    /** Of each note a day, the hits of all kinds and then their strengths. */
    private static final class Notes {
        final int[] days = new int[MOST_NOTES];
        final int[] told = new int[MOST_NOTES * NOTE_WIDE];
        int count = 0;

        void copy(Notes from) {
            System.arraycopy(from.days, 0, days, 0, from.count);
            System.arraycopy(from.told, 0, told, 0, from.count * NOTE_WIDE);
            count = from.count;
        }

        int lastDay() {
            return count > 0 ? days[count - 1] : 0;
        }

        void begin(int day) {
            if (count < MOST_NOTES) {
                days[count] = day;
                for (int kind = 0; kind < NOTE_WIDE; kind++) {
                    told[count * NOTE_WIDE + kind] = 0;
                }
                count++;
            }
        }

        void write(int kind, int hits, int strengths) {
            if (count > 0 && isKind(kind)) {
                told[(count - 1) * NOTE_WIDE + kind] = hits;
                told[(count - 1) * NOTE_WIDE + KINDS + kind] = strengths;
            }
        }

        private int strengthOf(int i, int kind) {
            return told[i * NOTE_WIDE + KINDS + kind];
        }

        private long sumOfDays() {
            long sum = 0;
            for (int i = 0; i < count; i++) {
                sum += days[i];
            }
            return sum;
        }

        private long sumOfStrengths(int kind) {
            long sum = 0;
            for (int i = 0; i < count; i++) {
                sum += strengthOf(i, kind);
            }
            return sum;
        }

        /** What the line of least squares rises a day. */
        void fit(int kind, Ratio rise) {
            long squares = 0;
            long products = 0;
            for (int i = 0; i < count; i++) {
                squares += (long) days[i] * days[i];
                products += (long) days[i] * strengthOf(i, kind);
            }
            long above = count * products - sumOfDays() * sumOfStrengths(kind);
            long below = count * squares - sumOfDays() * sumOfDays();
            // Two unlike days keep it above 0.
            rise.become(above, Math.max(1, below));
        }

        long floorAtLast(int kind, Ratio rise) {
            long behind = (long) count * lastDay() - sumOfDays();
            long height = sumOfStrengths(kind) * rise.below + behind * rise.above;
            return Math.floorDiv(height, Math.max(1, count * rise.below));
        }

        /** The line is at a limit on a day that, times the rise and the notes, is as much as is needed. */
        int firstDayAt(int limit, int kind, Ratio rise) {
            long step = rise.above * count;
            long lack = (long) limit * count - sumOfStrengths(kind);
            long needed = lack * rise.below + rise.above * sumOfDays();
            if (step * lastDay() >= needed) {
                return lastDay();
            }
            if (step <= 0) {
                return NOT_THERE;
            }
            long day = -Math.floorDiv(-needed, step);
            return day <= LAST_DUE ? (int) day : NOT_THERE;
        }
    }

    /** All that acts change. */
    private static final class State {
        int balls = 8;
        int ball = 10;
        int ring = 40;
        int turn = 240;
        final int[] options = {100, 0, 1, 4, 500};
        final Spans spans = new Spans();
        final Knocks knocks = new Knocks();
        final Steps steps = new Steps();
        final Notes notes = new Notes();

        void copy(State from) {
            measure(from.balls, from.ball, from.ring);
            turn = from.turn;
            System.arraycopy(from.options, 0, options, 0, OPTIONS);
            spans.copy(from.spans);
            knocks.copy(from.knocks);
            steps.copy(from.steps);
            notes.copy(from.notes);
        }

        void measure(int newBalls, int newBall, int newRing) {
            balls = newBalls;
            ball = newBall;
            ring = newRing;
        }

        /** How often a kind knocks in a turn. */
        void rate(int kind, Ratio into) {
            switch (kind) {
                case OUTER:
                    into.become(balls * (ring - ball), 2 * ring);
                    break;
                case INNER:
                    into.become(balls * (ring + ball), 2 * ring);
                    break;
                case BALL:
                    into.become(ring * ring - ball * ball, ring * ball);
                    break;
                case CAGE:
                    into.become(ring - ball, 2 * ring);
                    break;
                default:
                    into.become(1, 1);
                    break;
            }
        }
    }

    /**
     * Lays combs of one ratio. Angles are held times the ratio's upper number, in whole periods
     * and a rest: so marks are whole numbers, and no knock of a comb needs a division.
     */
    private static final class Comber {
        private int count = 0;
        private long period = FULL_TURN;
        private long slip = 0;
        private long drift = 0;
        private final long[] wholes = new long[MOST_KNOCKS];
        private final long[] rests = new long[MOST_KNOCKS];

        int hits = 0;
        int marks = 0;
        final int[] hitKnocks = new int[MOST_KNOCKS];
        private final long[] hitMarks = new long[MOST_KNOCKS];
        private final long[] hitOffs = new long[MOST_KNOCKS];

        int bestKnock = -1;
        int bestHits = 0;
        int bestScore = 0;

        void prepare(Knocks knocks, State state, Ratio ratio) {
            count = knocks.count;
            slip = state.options[SLIP];
            drift = state.options[DRIFT];
            period = Math.max(1, FULL_TURN * ratio.below);
            for (int k = 0; k < count; k++) {
                long place = state.spans.angleOf(knocks.ticks[k], state.turn) * ratio.above;
                wholes[k] = place / period;
                rests[k] = place % period;
            }
        }

        int marksFrom(int k) {
            int last = count - 1;
            if (k < 0 || k > last) {
                return 0;
            }
            long periods = wholes[last] - wholes[k];
            return (int) (rests[last] < rests[k] ? periods : periods + 1);
        }

        /**
         * As a hit is less than half a period off, a knock can only be a hit of the mark that is
         * nearest to it; and knocks with the same nearest mark follow one another.
         */
        void lay(int from) {
            hits = 0;
            marks = marksFrom(from);
            if (marks < 1) {
                return;
            }
            for (int k = from; k < count; k++) {
                long mark = wholes[k] - wholes[from];
                long off = rests[k] - rests[from];
                if (off < 0) {
                    off += period;
                    mark--;
                }
                if (2 * off > period) {
                    off = period - off;
                    mark++;
                }
                if (mark < marks && off * 1000 <= period * Math.min(MOST_OFF, slip + mark * drift)) {
                    takeHit(k, mark, off);
                }
            }
        }

        private void takeHit(int k, long mark, long off) {
            int at = hits;
            if (at > 0 && hitMarks[at - 1] == mark) {
                at--;
                if (off >= hitOffs[at]) {
                    return;
                }
            }
            if (at < MOST_KNOCKS) {
                hitKnocks[at] = k;
                hitMarks[at] = mark;
                hitOffs[at] = off;
                hits = at + 1;
            }
        }

        void findBest() {
            bestKnock = -1;
            bestHits = 0;
            bestScore = 0;
            for (int k = 0; k < count; k++) {
                int most = marksFrom(k);
                // Later combs have no more marks and no more knocks than this one.
                if (most < 2 || most < bestHits || count - k < bestHits) {
                    break;
                }
                lay(k);
                if (hits > bestHits || hits == bestHits && score() > bestScore) {
                    bestKnock = k;
                    bestHits = hits;
                    bestScore = score();
                }
            }
        }

        int score() {
            return hits * 1000 / Math.max(1, marks);
        }

        int strengthsOf(Knocks knocks) {
            int sum = 0;
            for (int i = 0; i < hits; i++) {
                sum += knocks.strengths[hitKnocks[i]];
            }
            return sum;
        }

        int tickOfHit(Knocks knocks, int i) {
            return i >= 0 && i < hits ? knocks.ticks[hitKnocks[i]] : 0;
        }

        int knockOf(int mark) {
            for (int i = 0; i < hits; i++) {
                if (hitMarks[i] == mark) {
                    return hitKnocks[i];
                }
            }
            return NOT_THERE;
        }

        private int mostOff() {
            long most = 0;
            for (int i = 0; i < hits; i++) {
                most = Math.max(most, hitOffs[i]);
            }
            return (int) (most * 1000 / Math.max(1, period));
        }

        /** Of the comb laid last on these knocks. */
        int tell(Knocks knocks, int what) {
            switch (what) {
                case 0: return hits;
                case 1: return marks;
                case 2: return score();
                case 3: return strengthsOf(knocks);
                case 4: return tickOfHit(knocks, hits - 1);
                default: return mostOff();
            }
        }
    }

    /** The chains of one ratio from all knocks. */
    private static final class Chains {
        private int count = 0;
        private final int[] sizes = new int[MOST_KNOCKS];
        private final int[] lasts = new int[MOST_KNOCKS];
        private final int[] periods = new int[MOST_KNOCKS];
        private final long[] places = new long[MOST_KNOCKS];

        /** From the last knock on, as a chain is one knock and the chain of the next one. */
        void follow(Knocks knocks, State state, Ratio ratio) {
            count = knocks.count;
            for (int k = 0; k < count; k++) {
                places[k] = state.spans.angleOf(knocks.ticks[k], state.turn) * ratio.above;
            }
            for (int k = count - 1; k >= 0; k--) {
                link(k, FULL_TURN * ratio.below, state.options[SLIP], state.options[MISS]);
            }
        }

        private void link(int k, long period, int slip, int miss) {
            sizes[k] = 1;
            lasts[k] = k;
            periods[k] = 0;
            int behind = k + 1;
            for (int g = 1; g <= miss + 1; g++) {
                long target = places[k] + g * period;
                while (behind < count && places[behind] < target) {
                    behind++;
                }
                int next = nearestTo(target, k, behind);
                long off = next < 0 ? period : Math.abs(places[next] - target);
                // Held against a period first, so that the product can't grow too great.
                if (next > k && off < period && off * 1000 <= period * Math.min(MOST_OFF, g * slip)) {
                    sizes[k] = sizes[next] + 1;
                    lasts[k] = lasts[next];
                    periods[k] = periods[next] + g;
                    return;
                }
            }
        }

        /** Of knocks behind k the one nearest to a target; behind is the first one not ahead of it. */
        private int nearestTo(long target, int k, int behind) {
            int ahead = behind - 1;
            if (ahead <= k) {
                return behind < count ? behind : -1;
            }
            if (behind >= count) {
                return ahead;
            }
            return target - places[ahead] <= places[behind] - target ? ahead : behind;
        }

        int knockOfMost() {
            int most = 0;
            for (int k = 1; k < count; k++) {
                if (sizes[k] > sizes[most]) {
                    most = k;
                }
            }
            return most;
        }

        int tell(int k, int what) {
            switch (what) {
                case 0: return sizes[k];
                case 1: return lasts[k];
                default: return periods[k];
            }
        }
    }

    /** Which knocks are hits, a bit each, of the combs of one kind. */
    private static final class Masks {
        private final long[] bits = new long[MOST_KNOCKS * WORDS];
        private final int[] hits = new int[MOST_KNOCKS];
        private int combs = 0;
        int most = 0;
        int mostRow = 0;
        int mostOtherRow = 0;

        void put(int row, Comber comber) {
            int at = row * WORDS;
            for (int i = 0; i < WORDS; i++) {
                bits[at + i] = 0;
            }
            for (int i = 0; i < comber.hits; i++) {
                int k = comber.hitKnocks[i];
                bits[at + (k >> 6)] |= 1L << (k & 63);
            }
            hits[row] = comber.hits;
        }

        /** All combs of 2 marks or more; those from later knocks have no more marks. */
        void putAll(Comber comber) {
            combs = 0;
            for (int k = 0; k < MOST_KNOCKS && comber.marksFrom(k) >= 2; k++) {
                comber.lay(k);
                put(k, comber);
                combs++;
            }
        }

        private int together(int row, Masks other, int otherRow) {
            int sum = 0;
            for (int i = 0; i < WORDS; i++) {
                sum += Long.bitCount(bits[row * WORDS + i] | other.bits[otherRow * WORDS + i]);
            }
            return sum;
        }

        int common(int row, Masks other, int otherRow) {
            return hits[row] + other.hits[otherRow] - together(row, other, otherRow);
        }

        /** Counting bits is dear, so pairs that can't win are passed by. */
        void findPair(Masks other) {
            most = 0;
            for (int a = 0; a < combs; a++) {
                for (int b = 0; b < other.combs; b++) {
                    int sum = hits[a] + other.hits[b];
                    if (sum > most) {
                        sum = together(a, other, b);
                    }
                    if (sum > most) {
                        most = sum;
                        mostRow = a;
                        mostOtherRow = b;
                    }
                }
            }
        }
    }

    /** The best combs of all kinds (without one hits and score are 0), and faults found. */
    private static final class Verdict {
        private static final int WIDE = 6;
        final boolean[] known = new boolean[KINDS];
        final int[] knocks = new int[KINDS];
        final int[] hits = new int[KINDS];
        final int[] scores = new int[KINDS];

        boolean peeled = false;
        int count = 0;
        int left = 0;
        private final int[] told = new int[KINDS * WIDE];

        void forget() {
            for (int kind = 0; kind < KINDS; kind++) {
                known[kind] = false;
            }
            peeled = false;
        }

        void put(int kind, Comber comber) {
            known[kind] = true;
            knocks[kind] = comber.bestKnock;
            hits[kind] = comber.bestHits;
            scores[kind] = comber.bestScore;
        }

        boolean isAhead(int one, int other) {
            if (hits[one] != hits[other]) {
                return hits[one] > hits[other];
            }
            if (scores[one] != scores[other]) {
                return scores[one] > scores[other];
            }
            return one < other;
        }

        int kindAt(int place) {
            for (int kind = 0; kind < KINDS; kind++) {
                int ahead = 0;
                for (int other = 0; other < KINDS; other++) {
                    if (isAhead(other, kind)) {
                        ahead++;
                    }
                }
                if (ahead == place) {
                    return kind;
                }
            }
            return NONE;
        }

        void add(int kind, Comber comber, Knocks laidOn) {
            if (count < 0 || count >= KINDS) {
                return;
            }
            int at = count * WIDE;
            told[at] = kind;
            told[at + 1] = comber.hits;
            told[at + 2] = comber.marks;
            told[at + 3] = comber.score();
            told[at + 4] = comber.tickOfHit(laidOn, 0);
            told[at + 5] = comber.strengthsOf(laidOn);
            count++;
        }

        int tell(int i, int what) {
            int at = i * WIDE + what;
            return at >= 0 && at < told.length ? told[at] : NONE;
        }

        void write(int i, StringBuilder into) {
            int score = tell(i, 3);
            into.append(nameOf(tell(i, 0))).append(' ');
            into.append(tell(i, 1)).append('/').append(tell(i, 2)).append(' ');
            into.append(score / 10).append('.').append(score % 10).append('%');
        }

        private static String nameOf(int kind) {
            switch (kind) {
                case OUTER: return "outer";
                case INNER: return "inner";
                case BALL: return "ball";
                case CAGE: return "cage";
                default: return "shaft";
            }
        }
    }
}
