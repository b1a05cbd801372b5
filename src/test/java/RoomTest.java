import java.lang.management.ManagementFactory;

/** All calls of a run live in one room, so that calls make nothing: only the constructor does, and little. */
final class RoomTest {
    /** Far below what 512 calls would take with even one small object each. */
    private static final long MOST_BYTES = 4096;
    private static final long MOST_BYTES_NEW = 32768;

    private static final BoundDraws X = new BoundDraws();

    public static void main(String[] args) {
        Check check = new Check("RoomTest");
        for (int i = 0; i < 30; i++) {
            X.row(i % 8, i % 2 * 100, 50);
        }
        for (int i = 0; i < 10; i++) {
            X.compare(i, 99991);
        }
        dearCalls();
        long before = allocated();
        dearCalls();
        long made = allocated() - before;
        System.out.println("RoomTest: " + made + " bytes made by 511 calls");
        check.due("511 calls make at most " + MOST_BYTES + " bytes (" + made + ")", 1,
                () -> made <= MOST_BYTES ? 1 : 0);
        newObject(check);
        check.end();
    }

    private static void newObject(Check check) {
        long before = allocated();
        BoundDraws another = new BoundDraws();
        long made = allocated() - before;
        check.due("a new object is at most " + MOST_BYTES_NEW + " bytes (" + made + ")", 1,
                () -> made <= MOST_BYTES_NEW ? 1 + another.count(0) : 0);
    }

    private static long dearCalls() {
        long sum = 0;
        X.begin(1, 100, 1, 1000);
        for (int i = 0; i < 51; i++) {
            sum += X.above(30, 15, 333, 1000, i % 2, 9) + X.odds(30, 15, 333, 1000, i % 2, 1, 2)
                    + X.bound(30, 15, i % 2, 1, 40) + X.turned(i % 2 == 0, 2) + X.even(50, 0)
                    + X.draw(i, 60, i % 2 == 0) + X.percentile(1, 2, 0) + X.raised(1 + i % 2, 5, 0)
                    + X.hit(i % 3 == 0) + X.count(1);
        }
        return sum;
    }

    private static long allocated() {
        com.sun.management.ThreadMXBean threads =
                (com.sun.management.ThreadMXBean) ManagementFactory.getThreadMXBean();
        return threads.getThreadAllocatedBytes(Thread.currentThread().getId());
    }
}
