import java.lang.management.ManagementFactory;

/** All calls of a run live in one room, so that calls make nothing: only the constructor does, and little. */
final class RoomTest {
    /** Far below what an object's calls would take with even one small object each. */
    private static final long MOST_BYTES = 4096;
    private static final long MOST_BYTES_NEW = 32768;

    public static void main(String[] args) {
        Check check = new Check("RoomTest");
        // what the machine itself makes when it meets a call for the first time is not counted
        allCalls(new BoundDraws());
        BoundDraws x = new BoundDraws();
        long before = allocated();
        allCalls(x);
        long made = allocated() - before;
        System.out.println("RoomTest: " + made + " bytes made by 511 calls");
        check.due("511 calls make at most " + MOST_BYTES + " bytes (" + made + ")", 1,
                () -> made <= MOST_BYTES ? 1 : 0);
        newObject(check);
        check.end();
    }

    private static void newObject(Check check) {
        long before = allocated();
        BoundDraws another = new BoundDraws();
        long made = allocated() - before;
        check.due("a new object is at most " + MOST_BYTES_NEW + " bytes (" + made + ")", 1,
                () -> made <= MOST_BYTES_NEW ? 1 + another.count(0) : 0);
    }

    /** As many as an object is used for, but for one, and the dearest of them. */
    private static long allCalls(BoundDraws x) {
        long sum = x.begin(1, 100, 1, 1000);
        for (int i = 0; i < 30; i++) {
            sum += x.row(i % 8, i % 2 * 100, 50);
        }
        for (int i = 0; i < 10; i++) {
            sum += x.compare(i, 99991);
        }
        for (int i = 0; i < 47; i++) {
            sum += x.above(30, 15, 333, 1000, i % 2, 9) + x.odds(30, 15, 333, 1000, i % 2, 1, 2)
                    + x.bound(30, 15, i % 2, 1, 40) + x.turned(i % 2 == 0, 2) + x.even(50, 0)
                    + x.draw(i, 60, i % 2 == 0) + x.percentile(1, 2, 0) + x.raised(1 + i % 2, 5, 0)
                    + x.hit(i % 3 == 0) + x.count(1);
        }
        return sum;
    }

    private static long allocated() {
        com.sun.management.ThreadMXBean threads =
                (com.sun.management.ThreadMXBean) ManagementFactory.getThreadMXBean();
        return threads.getThreadAllocatedBytes(Thread.currentThread().getId());
    }
}
