/** Promises 17 (begin), 18 (hit) and 19 (test). */
final class SequentialTest {
    private static final Check CHECK = new Check("SequentialTest");
    private static BoundDraws x;

    public static void main(String[] args) {
        nothingBegun();
        beginRefuses();
        hitsOnlyByHand();
        justAsRichAsNeeded();
        rejectedFromThenOn();
        beginTakesThePlace();
        sixtyTries();
        widestNumbers();
        CHECK.end();
    }

    private static void begin(int up, int down, int a, int b, long want) {
        CHECK.due("begin(" + up + ", " + down + ", " + a + ", " + b + ")", want, () -> x.begin(up, down, a, b));
    }

    private static void beginThrows(int up, int down, int a, int b) {
        CHECK.dueThrow("begin(" + up + ", " + down + ", " + a + ", " + b + ")", IllegalArgumentException.class,
                () -> x.begin(up, down, a, b));
    }

    private static void hit(boolean is, long want) {
        CHECK.due("hit(" + is + ")", want, () -> x.hit(is));
    }

    private static void test(long tries, long hits, long behind, long now) {
        CHECK.due("test(0)", tries, () -> x.test(0));
        CHECK.due("test(1)", hits, () -> x.test(1));
        CHECK.due("test(2)", behind, () -> x.test(2));
        CHECK.due("test(3)", now, () -> x.test(3));
        CHECK.due("test(4)", BoundDraws.OUTSIDE, () -> x.test(4));
        CHECK.due("test(-1)", BoundDraws.OUTSIDE, () -> x.test(-1));
    }

    private static void nothingBegun() {
        x = new BoundDraws();
        hit(true, BoundDraws.NONE);
        hit(false, BoundDraws.NONE);
        for (int what = -1; what <= 4; what++) {
            int of = what;
            CHECK.due("test(" + of + ")", BoundDraws.NONE, () -> x.test(of));
        }
    }

    private static void beginRefuses() {
        x = new BoundDraws();
        int[][] wrong = {{1, 1}, {0, 1}, {0, 2}, {2, 2}, {1, 101}, {-1, 50}, {100, 100}, {1, -5},
            {Integer.MAX_VALUE, Integer.MIN_VALUE}};
        for (int[] w : wrong) {
            begin(w[0], w[1], 1, 2, BoundDraws.OUTSIDE);
            begin(w[0], w[1], 0, 0, BoundDraws.OUTSIDE);
        }
        int[][] noTrust = {{0, 2}, {2, 2}, {1, 1}, {1, 1001}, {-1, 2}, {1, -1}, {3, 2},
            {Integer.MIN_VALUE, Integer.MIN_VALUE}};
        for (int[] w : noTrust) {
            beginThrows(1, 2, w[0], w[1]);
        }
        hit(true, BoundDraws.NONE);
        begin(1, 2, 1, 2, 1);
        hit(true, 0);
        begin(2, 2, 1, 2, BoundDraws.OUTSIDE);
        beginThrows(1, 2, 2, 2);
        test(1, 1, 0, 0);
        begin(99, 100, 999, 1000, 1);
        begin(1, 100, 1, 1000, 1);
        test(0, 0, 0, 0);
    }

    /** Behind n hits of n by 1 / 2 THE WEALTH is 2 to the n-th by n + 1: 256 / 9 is the first from 20 on. */
    private static void hitsOnlyByHand() {
        x = new BoundDraws();
        begin(1, 2, 1, 20, 1);
        test(0, 0, 0, 0);
        for (int n = 1; n <= 7; n++) {
            hit(true, 0);
            test(n, n, 0, 0);
        }
        hit(true, 1);
        test(8, 8, 8, 1);
        x = new BoundDraws();
        begin(1, 2, 1, 20, 1);
        for (int n = 1; n <= 7; n++) {
            hit(false, 0);
        }
        hit(false, 1);
        test(8, 0, 8, 1);
    }

    /** Three hits by 1 / 2 have just 8 / 4, one of 1 / 4 just 4 / 2. */
    private static void justAsRichAsNeeded() {
        x = new BoundDraws();
        begin(1, 2, 1, 2, 1);
        hit(true, 0);
        hit(true, 0);
        hit(true, 1);
        test(3, 3, 3, 1);
        begin(1, 2, 499, 999, 1);
        hit(true, 0);
        hit(true, 0);
        hit(true, 0);
        test(3, 3, 0, 0);
        hit(true, 1);
        test(4, 4, 4, 1);
        begin(1, 4, 1, 2, 1);
        hit(true, 1);
        begin(1, 4, 1, 2, 1);
        hit(false, 0);
        begin(3, 4, 2, 4, 1);
        hit(false, 1);
        begin(3, 4, 499, 999, 1);
        hit(false, 0);
    }

    private static void rejectedFromThenOn() {
        x = new BoundDraws();
        begin(1, 4, 1, 2, 1);
        hit(true, 1);
        test(1, 1, 1, 1);
        hit(false, 1);
        test(2, 1, 1, 0);
        hit(false, 1);
        test(3, 1, 1, 0);
        hit(true, 1);
        hit(true, 1);
        hit(true, 1);
        test(6, 4, 1, 1);
    }

    private static void beginTakesThePlace() {
        x = new BoundDraws();
        begin(1, 4, 1, 2, 1);
        hit(true, 1);
        begin(1, 2, 1, 2, 1);
        test(0, 0, 0, 0);
        hit(true, 0);
        test(1, 1, 0, 0);
    }

    private static void sixtyTries() {
        x = new BoundDraws();
        begin(1, 2, 1, 1000, 1);
        for (int n = 1; n <= 60; n++) {
            hit(n % 2 == 0, 0);
        }
        test(60, 30, 0, 0);
        hit(true, BoundDraws.FULL);
        hit(false, BoundDraws.FULL);
        test(60, 30, 0, 0);
        begin(1, 2, 1, 1000, 1);
        hit(true, 0);
        test(1, 1, 0, 0);
    }

    private static void widestNumbers() {
        for (int up : new int[] {1, 37, 50, 99}) {
            for (int every = 1; every <= 5; every++) {
                x = new BoundDraws();
                Model model = new Model();
                model.begin(up, 100, 1, 1000);
                begin(up, 100, 1, 1000, 1);
                for (int n = 1; n <= 60; n++) {
                    hit(n % every == 0, model.hit(n % every == 0));
                    test(model.test(0), model.test(1), model.test(2), model.test(3));
                }
            }
        }
    }
}
