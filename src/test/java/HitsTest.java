import java.math.BigInteger;

/** Promises 2 (above), 3 (odds) and 4 (bound). */
final class HitsTest {
    private static final Check CHECK = new Check("HitsTest");
    private static final BoundDraws X = new BoundDraws();

    public static void main(String[] args) {
        aboveOfSmallNumbers();
        aboveAtItsEdges();
        aboveLimbByLimb();
        aboveOutside();
        oddsBelowJustAndAbove();
        oddsOutside();
        boundByHand();
        boundByLookingAtEachQ();
        boundRefuses();
        CHECK.end();
    }

    private static void above(int n, int k, int up, int down, int side, int i, long want) {
        CHECK.due("above(" + n + ", " + k + ", " + up + ", " + down + ", " + side + ", " + i + ")", want,
                () -> X.above(n, k, up, down, side, i));
    }

    private static void odds(int n, int k, int up, int down, int side, int a, int b, long want) {
        CHECK.due("odds(" + n + ", " + k + ", " + up + ", " + down + ", " + side + ", " + a + ", " + b + ")", want,
                () -> X.odds(n, k, up, down, side, a, b));
    }

    private static void bound(int n, int k, int side, int a, int b, long want) {
        CHECK.due("bound(" + n + ", " + k + ", " + side + ", " + a + ", " + b + ")", want,
                () -> X.bound(n, k, side, a, b));
    }

    private static void boundThrows(int n, int k, int side, int a, int b) {
        CHECK.dueThrow("bound(" + n + ", " + k + ", " + side + ", " + a + ", " + b + ")",
                IllegalArgumentException.class, () -> X.bound(n, k, side, a, b));
    }

    private static void aboveOfSmallNumbers() {
        above(3, 2, 1, 2, 0, 0, 4);
        above(3, 2, 1, 2, 1, 0, 7);
        above(3, 1, 1, 3, 0, 0, 19);
        above(3, 1, 1, 3, 1, 0, 20);
        above(4, 0, 2, 5, 0, 0, 625);
        above(4, 4, 2, 5, 0, 0, 16);
        above(4, 0, 2, 5, 1, 0, 81);
        above(2, 1, 2, 4, 0, 0, 12);
    }

    private static void aboveAtItsEdges() {
        above(0, 0, 0, 1, 0, 0, 1);
        above(0, 0, 1, 1, 1, 0, 1);
        above(30, 0, 0, 7, 1, 0, BigInteger.valueOf(7).pow(30).longValue() & 0xFFFFFFFFL);
        above(30, 1, 0, 7, 0, 0, 0);
        above(5, 5, 1, 1, 0, 0, 1);
        above(5, 4, 1, 1, 1, 0, 0);
        above(30, 0, 500, 1000, 0, 10, 0);
        above(30, 0, 500, 1000, 0, 9, 2010);
    }

    private static void aboveLimbByLimb() {
        int[][] odds = {{0, 1}, {1, 1}, {1, 2}, {333, 1000}, {1, 1000}, {999, 1000}, {1000, 1000}, {17, 101}};
        for (int[] of : odds) {
            for (int n = 0; n <= 30; n += 5) {
                for (int k = 0; k <= n; k++) {
                    for (int side = 0; side <= 1; side++) {
                        BigInteger want = Model.aboveOf(n, k, of[0], of[1], side);
                        for (int i = 0; i <= 10; i++) {
                            above(n, k, of[0], of[1], side, i, Model.limbOf(want, i));
                        }
                    }
                }
            }
        }
    }

    private static void aboveOutside() {
        int[][] wrong = {
            {-1, 0, 1, 2, 0, 0}, {31, 0, 1, 2, 0, 0}, {3, -1, 1, 2, 0, 0}, {3, 4, 1, 2, 0, 0},
            {3, 1, -1, 2, 0, 0}, {3, 1, 3, 2, 0, 0}, {3, 1, 0, 0, 0, 0}, {3, 1, 1, 1001, 0, 0},
            {3, 1, 1, -2, 0, 0}, {3, 1, 1, 2, -1, 0}, {3, 1, 1, 2, 2, 0}, {3, 1, 1, 2, 0, -1},
            {3, 1, 1, 2, 0, 11},
            {Integer.MIN_VALUE, Integer.MIN_VALUE, Integer.MIN_VALUE, Integer.MIN_VALUE, 0, 0},
            {Integer.MAX_VALUE, Integer.MAX_VALUE, Integer.MAX_VALUE, Integer.MAX_VALUE, 0, Integer.MAX_VALUE}};
        for (int[] w : wrong) {
            above(w[0], w[1], w[2], w[3], w[4], w[5], BoundDraws.OUTSIDE);
        }
    }

    private static void oddsBelowJustAndAbove() {
        odds(2, 1, 1, 2, 0, 3, 4, 1);
        odds(2, 1, 1, 2, 0, 749, 1000, 2);
        odds(2, 1, 1, 2, 0, 751, 1000, 0);
        odds(2, 0, 1, 2, 1, 1, 4, 1);
        odds(2, 0, 1, 2, 1, 24, 100, 2);
        odds(2, 0, 1, 2, 1, 26, 100, 0);
        odds(30, 30, 1000, 1000, 0, 1, 1, 1);
        odds(30, 30, 999, 1000, 0, 1, 1, 0);
        odds(30, 30, 1, 1000, 0, 0, 1, 2);
        odds(30, 30, 1, 1000, 0, 1, 1000, 0);
        odds(0, 0, 0, 1, 0, 1000, 1000, 1);
        odds(0, 0, 0, 1, 1, 999, 1000, 2);
        odds(3, 1, 0, 5, 0, 0, 9, 1);
        odds(3, 2, 1, 1, 1, 0, 9, 1);
    }

    private static void oddsOutside() {
        int[][] wrong = {
            {31, 0, 1, 2, 0, 1, 2}, {-1, 0, 1, 2, 0, 1, 2}, {3, 4, 1, 2, 0, 1, 2}, {3, -1, 1, 2, 0, 1, 2},
            {3, 1, 3, 2, 0, 1, 2}, {3, 1, -1, 2, 0, 1, 2}, {3, 1, 0, 0, 0, 1, 2}, {3, 1, 1, 1001, 0, 1, 2},
            {3, 1, 1, 2, 2, 1, 2}, {3, 1, 1, 2, -1, 1, 2}, {3, 1, 1, 2, 0, 0, 0}, {3, 1, 1, 2, 0, 1, 1001},
            {3, 1, 1, 2, 0, -1, 2}, {3, 1, 1, 2, 0, 3, 2}, {3, 1, 1, 2, 0, -5, -4}};
        for (int[] w : wrong) {
            odds(w[0], w[1], w[2], w[3], w[4], w[5], w[6], BoundDraws.OUTSIDE);
        }
        odds(3, 1, 1, 1000, 0, 1000, 1000, 0);
    }

    private static void boundByHand() {
        bound(1, 0, 0, 1, 20, 950);
        bound(1, 1, 1, 1, 20, 50);
        bound(1, 0, 0, 1, 3, 667);
        bound(1, 1, 1, 1, 3, 333);
        bound(2, 0, 0, 1, 4, 500);
        bound(2, 2, 1, 1, 4, 500);
        bound(30, 30, 0, 999, 1000, 1000);
        bound(30, 0, 1, 999, 1000, 0);
        bound(1, 0, 0, 999, 1000, 1);
        bound(1, 1, 1, 999, 1000, 999);
    }

    private static void boundByLookingAtEachQ() {
        int[][] trusts = {{1, 2}, {1, 20}, {1, 1000}, {999, 1000}, {3, 7}};
        for (int[] trust : trusts) {
            for (int n : new int[] {1, 2, 3, 10, 29, 30}) {
                for (int k = 0; k <= n; k += n > 10 ? 4 : 1) {
                    bound(n, k, 0, trust[0], trust[1], Model.boundOf(n, k, 0, trust[0], trust[1]));
                    bound(n, k, 1, trust[0], trust[1], Model.boundOf(n, k, 1, trust[0], trust[1]));
                }
            }
        }
    }

    private static void boundRefuses() {
        bound(0, 0, 0, 1, 2, BoundDraws.OUTSIDE);
        bound(31, 0, 0, 1, 2, BoundDraws.OUTSIDE);
        bound(-1, 0, 0, 1, 2, BoundDraws.OUTSIDE);
        bound(5, -1, 0, 1, 2, BoundDraws.OUTSIDE);
        bound(5, 6, 0, 1, 2, BoundDraws.OUTSIDE);
        bound(5, 3, -1, 1, 2, BoundDraws.OUTSIDE);
        bound(5, 3, 2, 1, 2, BoundDraws.OUTSIDE);
        bound(5, 3, 2, 0, 0, BoundDraws.OUTSIDE);
        bound(0, 0, 0, 5, 1, BoundDraws.OUTSIDE);
        boundThrows(5, 3, 0, 1, 1);
        boundThrows(5, 3, 0, 0, 1);
        boundThrows(5, 3, 1, 0, 2);
        boundThrows(5, 3, 1, 2, 2);
        boundThrows(5, 3, 0, 1, 1001);
        boundThrows(5, 3, 0, -1, 2);
        boundThrows(5, 3, 0, 1, Integer.MIN_VALUE);
        boundThrows(5, 3, 0, Integer.MAX_VALUE, Integer.MAX_VALUE);
    }
}
