import java.util.ArrayList;
import java.util.Arrays;
import java.util.List;
import java.util.TreeSet;

/**
 * What depends on what. "all below goes by SEEN": with filters a finder answers as one whose trace is what the other
 * one sees. And of each act: which calls answer otherwise behind it, all others answer as before.
 */
public final class InfluenceTest {
    private static final Checks C = new Checks();
    private static final String ALL_OF_COMBS = "comb hit best side shared both window report folded ranked faults fault";
    private static final String CHAINS = " chain longest";

    /** An act that is made on a finder. */
    private interface Act {
        int on(KnockFinder x);
    }

    public static void main(String[] args) {
        allGoesBySeen();
        seenOfNothing();
        options();
        turnsAndSpeeds();
        bearings();
        knocks();
        notes();
        bestTurnAside();
        C.end();
    }

    private static List<Call> questions() {
        List<Call> all = new ArrayList<>();
        for (int kind = 0; kind < 5; kind++) {
            ofAKind(all, kind);
            for (int other = 0; other < 5; other++) {
                all.add(new Call("shared", kind, other));
                all.add(new Call("both", kind, other, 0));
                all.add(new Call("both", kind, other, 1));
                all.add(new Call("both", kind, other, 2));
                all.add(new Call("apart", kind, other));
                for (int eighth = 0; eighth <= 8; eighth++) {
                    all.add(new Call("folded", kind, other, eighth));
                }
            }
        }
        ofNoKind(all);
        return all;
    }

    private static void ofAKind(List<Call> all, int kind) {
        for (int what = 0; what < 7; what++) {
            all.add(new Call("best", kind, what));
            all.add(new Call("side", kind, what - 3));
            all.add(new Call("longest", kind, what));
            all.add(new Call("ratio", kind, what));
            all.add(new Call("line", kind, what));
            all.add(new Call("bestTurn", kind, 215, 250, what));
            for (int k = 0; k < 4; k++) {
                all.add(new Call("comb", kind, k, what));
                all.add(new Call("hit", kind, k, what));
                all.add(new Call("chain", kind, k, what));
                all.add(new Call("window", k, 4, kind, what));
            }
            all.add(new Call("fault", kind, what));
            all.add(new Call("report", kind, what - 1));
        }
        all.add(new Call("due", kind, 40));
        all.add(new Call("ranked", kind));
    }

    private static void ofNoKind(List<Call> all) {
        for (int what = 0; what < 3; what++) {
            all.add(new Call("faults", what));
            all.add(new Call("tried", 8, 10, 40, 0, what));
            all.add(new Call("tried", 9, 11, 45, 0, what));
            all.add(new Call("lags", 40, 200, 3, what));
            all.add(new Call("nearest", 75, what));
            all.add(new Call("nearest", 230, what));
        }
        for (int i = 0; i < 16; i++) {
            all.add(new Call("knock", i, 0));
            all.add(new Call("knock", i, 1));
            all.add(new Call("knock", i, 2));
            all.add(new Call("lag", 20 * i + 20, 10));
            all.add(new Call("noteIs", i, 0));
            all.add(new Call("noteIs", i, 1));
            all.add(new Call("noteIs", i, 6));
            all.add(new Call("angle", 100 * i));
        }
    }

    private static List<Long> answers(KnockFinder x, List<Call> all) {
        List<Long> told = new ArrayList<>();
        for (Call call : all) {
            told.add(call.on(x));
        }
        return told;
    }

    private static String traceOfSeen(KnockFinder x) {
        StringBuilder text = new StringBuilder();
        int last = 0;
        for (int k = 0; k < x.get(10); k++) {
            text.append(x.knock(k, 0) - last).append((char) ('a' - 1 + x.knock(k, 1)));
            last = x.knock(k, 0);
        }
        return text.toString();
    }

    private static void allGoesBySeen() {
        List<Call> all = questions();
        String[] steps = {"a3", "b4", "m9", "k2", "r3", "w11", "x25", "y7", "r2;y30;k2", "m70;b20;x5", "y99;y99;y99;a2", "x5;a2;m5",
            "w9;r5"};
        for (String one : steps) {
            KnockFinder filtered = irregular();
            C.isTrue("some are seen by " + one, Checks.filters(filtered, one) >= 2);
            KnockFinder plain = new KnockFinder();
            C.due("knocks of " + one, Checks.trace(plain, traceOfSeen(filtered)), filtered.get(10));
            alike("filters " + one, all, filtered, plain);
            Checks.speeds(filtered, "100:230;400:260");
            Checks.speeds(plain, "100:230;400:260");
            alike("filters and speeds " + one, all, filtered, plain);
            filtered.note(5);
            plain.note(5);
            alike("filters and a note " + one, all, filtered, plain);
        }
    }

    private static void alike(String what, List<Call> all, KnockFinder x, KnockFinder y) {
        for (Call call : all) {
            C.due(what + ": " + call, call.on(x), call.on(y));
        }
    }

    /** A trace of which all goes is as none. */
    private static void seenOfNothing() {
        KnockFinder x = irregular();
        C.due("none is seen", Checks.filters(x, "w0"), 0);
        alike("none is seen", questions(), x, new KnockFinder());
    }

    private static KnockFinder irregular() {
        KnockFinder x = new KnockFinder();
        C.due("knocks", Checks.trace(x, "41c(80d7a)380e23a50b(80c)230a61d80e"), 15);
        return x;
    }

    /** A finder with spans, notes, knocks of some kinds, and room for each option to matter. */
    private static KnockFinder finder() {
        KnockFinder x = irregular();
        Checks.speeds(x, "300:236");
        x.set(0, 60);
        x.set(3, 3);
        x.set(4, 250);
        x.note(3);
        Checks.filters(x, "r1");
        x.note(7);
        return x;
    }

    /** Exactly the calls named answer otherwise (at least one of each name) behind some of these acts. */
    private static void changes(String what, String names, Act... acts) {
        List<Call> all = questions();
        TreeSet<String> changed = new TreeSet<>();
        for (Act act : acts) {
            KnockFinder x = finder();
            List<Long> before = answers(x, all);
            C.isTrue(what + " is taken", act.on(x) >= 0);
            List<Long> after = answers(x, all);
            for (int i = 0; i < all.size(); i++) {
                if (!before.get(i).equals(after.get(i))) {
                    changed.add(all.get(i).name);
                }
            }
            x.undo();
            C.isTrue(what + " undone: all as before", answers(x, all).equals(before));
        }
        TreeSet<String> want = new TreeSet<>(Arrays.asList(names.split(" ")));
        C.isTrue(what + " changes " + changed + ", due is " + want, changed.equals(want));
    }

    /** SLIP counts for combs, chains and what is apart, DRIFT for combs alone, MISS for chains, the rest for faults. */
    private static void options() {
        changes("slip", ALL_OF_COMBS + CHAINS + " apart tried bestTurn", x -> x.set(0, 20), x -> x.set(0, 300), x -> x.set(0, 0));
        changes("drift", ALL_OF_COMBS + " tried bestTurn", x -> x.set(1, 50), x -> x.set(1, 10), x -> x.set(1, 3));
        changes("miss", "chain longest", x -> x.set(2, 0), x -> x.set(2, 5));
        changes("least hits", "faults fault report tried", x -> x.set(3, 2), x -> x.set(3, 50), x -> x.set(3, 8));
        changes("least score", "faults fault report tried", x -> x.set(4, 0), x -> x.set(4, 1000), x -> x.set(4, 600));
    }

    /** bestTurn() looks at turns of its own; ratios and periods in ticks, and so nearest(), go by TURN, not by speeds. */
    private static void turnsAndSpeeds() {
        changes("turn", ALL_OF_COMBS + CHAINS + " angle ratio nearest tried", x -> x.turn(200), x -> x.turn(480), x -> x.turn(231));
        changes("speeds", ALL_OF_COMBS + CHAINS + " angle tried bestTurn", x -> Checks.speeds(x, "200:300;500:210"),
            x -> x.speeds(0), x -> Checks.speeds(x, "0:120"), x -> Checks.speeds(x, "40:480"));
    }

    /** tried() brings its own bearing. */
    private static void bearings() {
        changes("bearing", ALL_OF_COMBS + CHAINS + " ratio apart nearest bestTurn", x -> x.bearing(9, 10, 40),
            x -> x.bearing(8, 11, 40), x -> x.bearing(8, 10, 41), x -> x.bearing(3, 1, 2));
    }

    /** What was noted stays as it was then. */
    private static void knocks() {
        String names = ALL_OF_COMBS + CHAINS + " knock lag lags tried bestTurn";
        changes("filters", names, x -> Checks.filters(x, "k2"), x -> Checks.filters(x, "x30;w6"), x -> x.filters(0));
        changes("drop", names, x -> x.drop(1), x -> x.drop(5), x -> x.drop(13));
        changes("trace", names, x -> Checks.trace(x, "80z70z"), x -> Checks.trace(x, "(48c)4"));
    }

    private static void notes() {
        changes("note", "noteIs line due", x -> x.note(9), x -> x.note(9999));
    }

    /** The turn that is looked for is one that is tried, not the one that is set; with a span from tick 0 none matters. */
    private static void bestTurnAside() {
        KnockFinder x = irregular();
        int best = x.bestTurn(0, 215, 250, 0);
        int hits = x.bestTurn(0, 215, 250, 1);
        C.due("the turn stays", x.get(8), 240);
        x.turn(best);
        C.due("with that turn there are so many hits", x.best(0, 0), hits);
        Checks.speeds(x, "0:240");
        C.due("a span from tick 0: all turns are alike", x.bestTurn(0, 215, 250, 0), 215);
        C.due("a span from tick 0: hits", x.bestTurn(0, 215, 250, 1), x.best(0, 0));
    }
}
