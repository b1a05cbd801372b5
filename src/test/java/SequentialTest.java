/** Promises 17 to 19 (begin, hit, test), for ordinary tries; their edges are EdgesTest's. */
final class SequentialTest {
    private static final Check CHECK = new Check("SequentialTest");

    public static void main(String[] args) {
        allHitsOrNone();
        rejectedFromThenOn();
        beginTakesThePlace();
        asTheModel();
        CHECK.end();
    }

    private static Subject begun(int up, int down, int a, int b) {
        return new Subject(CHECK, "promises 17 to 19").begin(up, down, a, b, 1);
    }

    private static Subject is(Subject x, long tries, long hits, long behind, long now) {
        return x.test(0, tries).test(1, hits).test(2, behind).test(3, now);
    }

    /** Behind n hits of n by 1 / 2 THE WEALTH is 2 to the n-th by n + 1: 256 / 9 is the first from 20 on. */
    private static void allHitsOrNone() {
        for (boolean hit : new boolean[] {true, false}) {
            Subject x = is(begun(1, 2, 1, 20), 0, 0, 0, 0);
            for (int n = 1; n <= 7; n++) {
                is(x.hit(hit, 0), n, hit ? n : 0, 0, 0);
            }
            is(x.hit(hit, 1), 8, hit ? 8 : 0, 8, 1);
        }
    }

    private static void rejectedFromThenOn() {
        Subject x = is(begun(1, 4, 1, 2).hit(true, 1), 1, 1, 1, 1);
        is(x.hit(false, 1), 2, 1, 1, 0);
        is(x.hit(false, 1), 3, 1, 1, 0);
        is(x.hits(3, true, 1), 6, 4, 1, 1);
    }

    private static void beginTakesThePlace() {
        Subject x = is(begun(1, 4, 1, 2).hit(true, 1).begin(1, 2, 1, 2, 1), 0, 0, 0, 0);
        is(x.hit(true, 0), 1, 1, 0, 0);
    }

    private static void asTheModel() {
        for (int up : new int[] {1, 37, 50, 99}) {
            for (int every = 1; every <= 5; every++) {
                Model model = new Model();
                model.begin(up, 100, 1, 1000);
                Subject x = begun(up, 100, 1, 1000);
                for (int n = 1; n <= 60; n++) {
                    boolean hit = n % every == 0;
                    x.hit(hit, model.hit(hit));
                    is(x, model.test(0), model.test(1), model.test(2), model.test(3));
                }
            }
        }
    }
}
