import java.math.BigInteger;

/** Promises 2 (above), 3 (odds) and 4 (bound), for ordinary numbers; their edges are EdgesTest's. */
final class HitsTest {
    private static final Check CHECK = new Check("HitsTest");

    public static void main(String[] args) {
        aboveOfSmallNumbers();
        aboveLimbByLimb();
        oddsBelowJustAndAbove();
        boundByLookingAtEachQ();
        CHECK.end();
    }

    private static Subject fresh(String heading) {
        return new Subject(CHECK, heading);
    }

    private static void aboveOfSmallNumbers() {
        fresh("promise 2").above(3, 2, 1, 2, 0, 0, 4).above(3, 2, 1, 2, 1, 0, 7)
                .above(3, 1, 1, 3, 0, 0, 19).above(3, 1, 1, 3, 1, 0, 20)
                .above(4, 0, 2, 5, 0, 0, 625).above(4, 4, 2, 5, 0, 0, 16)
                .above(4, 0, 2, 5, 1, 0, 81).above(2, 1, 2, 4, 0, 0, 12);
    }

    private static void aboveLimbByLimb() {
        int[][] odds = {{0, 1}, {1, 1}, {1, 2}, {333, 1000}, {1, 1000}, {999, 1000}, {1000, 1000}, {17, 101}};
        for (int[] of : odds) {
            for (int n = 0; n <= 30; n += 5) {
                for (int k = 0; k <= n; k++) {
                    Subject x = fresh("promise 2");
                    for (int side = 0; side <= 1; side++) {
                        BigInteger want = Model.aboveOf(n, k, of[0], of[1], side);
                        for (int i = 0; i <= 10; i++) {
                            x.above(n, k, of[0], of[1], side, i, Model.limbOf(want, i));
                        }
                    }
                }
            }
        }
    }

    private static void oddsBelowJustAndAbove() {
        fresh("promise 3").odds(2, 1, 1, 2, 0, 3, 4, 1).odds(2, 1, 1, 2, 0, 749, 1000, 2)
                .odds(2, 1, 1, 2, 0, 751, 1000, 0).odds(2, 0, 1, 2, 1, 1, 4, 1)
                .odds(2, 0, 1, 2, 1, 24, 100, 2).odds(2, 0, 1, 2, 1, 26, 100, 0)
                .odds(30, 30, 999, 1000, 0, 1, 1, 0).odds(3, 1, 0, 5, 0, 0, 9, 1)
                .odds(3, 2, 1, 1, 1, 0, 9, 1).odds(10, 5, 1, 2, 0, 623, 1000, 2)
                .odds(10, 5, 1, 2, 0, 624, 1000, 0);
    }

    /** The document's own words: each q from the one end to the other. */
    private static void boundByLookingAtEachQ() {
        int[][] trusts = {{1, 2}, {1, 20}, {1, 1000}, {999, 1000}, {3, 7}};
        for (int[] trust : trusts) {
            for (int n : new int[] {1, 2, 3, 10, 29, 30}) {
                Subject x = fresh("promise 4");
                for (int k = 0; k <= n; k += n > 10 ? 4 : 1) {
                    for (int side = 0; side <= 1; side++) {
                        x.bound(n, k, side, trust[0], trust[1], Model.boundOf(n, k, side, trust[0], trust[1]));
                    }
                }
            }
        }
    }
}
