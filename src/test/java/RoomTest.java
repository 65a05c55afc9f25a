import java.lang.management.ManagementFactory;

/** What a run of 512 calls makes is small: rows are made in the constructor and used again. */
public final class RoomTest {
    private static final Checks C = new Checks();

    private static long made() {
        com.sun.management.ThreadMXBean bean = (com.sun.management.ThreadMXBean) ManagementFactory.getThreadMXBean();
        return bean.getThreadAllocatedBytes(Thread.currentThread().getId());
    }

    public static void main(String[] args) {
        run();
        long before = made();
        KnockFinder x = new KnockFinder();
        long byConstructor = made() - before;
        // Some 15,000 elements of rows, most of four bytes, some of eight.
        C.isTrue("a new object takes " + byConstructor + " bytes", byConstructor < 100000);
        C.due("it is there", x.get(9), 0);
        before = made();
        run();
        long byRun = made() - before;
        C.isTrue("a run takes " + byRun + " bytes", byRun < 400000);
        C.end();
    }

    /** Calls of the dear kinds, and of those that make texts. */
    private static void run() {
        KnockFinder x = new KnockFinder();
        x.feed('(' << 24 | '(' << 16 | '8' << 8 | '0', 'e' << 24 | ')' << 16 | '9' << 8 | ')', '9' << 24, 0, 0);
        x.trace(9);
        for (int i = 0; i < 42; i++) {
            x.bearing(8 + i % 2, 10, 40);
            x.set(0, 100 + i);
            x.note(i);
            x.undo();
            x.both(0, 1, 0);
            x.bestTurn(0, 200, 260, 0);
            x.tried(9, 9, 50, 0, 2);
            x.lags(1, 500, 50, 0);
            x.report(0, -1);
            x.report(0, 5);
            x.longest(2, 0);
            x.folded(0, 1, 8);
        }
    }
}
