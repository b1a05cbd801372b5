/** The sentences of promises 17 (begin), 18 (hit) and 19 (test), and of their terms. */
final class TrialEdges {
    private static final int OUTSIDE = BoundDraws.OUTSIDE;
    private static final int FULL = BoundDraws.FULL;
    private static final int NONE = BoundDraws.NONE;

    private final Edges edges;

    private TrialEdges(Edges edges) {
        this.edges = edges;
    }

    static void run(Edges edges) {
        TrialEdges it = new TrialEdges(edges);
        it.beginInPlace();
        it.beginOutside();
        it.beginThrows();
        it.beginOfSeveral();
        it.hitsOneBehindTheOther();
        it.hitWealthAtLeast();
        it.hitFromThenOn();
        it.hitNone();
        it.hitFull();
        it.testTriesAndHits();
        it.testBehindWhich();
        it.testNow();
        it.testNoneAndOutside();
    }

    private void beginInPlace() {
        edges.sentence(17, "A TEST, in place of one that was: 1.");
        edges.fresh().begin(1, 2, 1, 2, 1).test(0, 0).test(1, 0).test(2, 0).test(3, 0);
        edges.in(State.SOME).begin(1, 2, 1, 2, 1).test(0, 0).test(1, 0).test(2, 0).test(3, 0);
        edges.in(State.FULL).begin(1, 2, 1, 2, 1).test(0, 0).test(1, 0).hit(true, 0).test(0, 1).test(1, 1);
        // with the odds and the trust of the new one: one hit by 1 / 4 has just 2
        edges.fresh().begin(1, 2, 1, 1000, 1).hit(true, 0).begin(1, 4, 1, 2, 1).hit(true, 1)
                .begin(1, 2, 1, 2, 1).test(2, 0).hit(true, 0).begin(1, 4, 1, 3, 1).hit(true, 0);
    }

    private void beginOutside() {
        edges.sentence(17, "OUTSIDE: down is not 2 to 100");
        edges.refusedEverywhere(x -> {
            x.begin(1, 1, 1, 2, OUTSIDE).begin(0, 1, 1, 2, OUTSIDE).begin(0, 0, 1, 2, OUTSIDE);
            x.begin(1, 101, 1, 2, OUTSIDE).begin(100, 101, 1, 2, OUTSIDE).begin(-2, -1, 1, 2, OUTSIDE);
            for (int far : Edges.FAR) {
                x.begin(1, far, 1, 2, OUTSIDE).begin(far, far, 1, 2, OUTSIDE);
            }
        });
        edges.fresh().begin(1, 2, 1, 2, 1).begin(1, 100, 1, 2, 1).begin(99, 100, 1, 2, 1);

        edges.sentence(17, "up not 1 to down less 1.");
        edges.refusedEverywhere(x -> {
            x.begin(0, 2, 1, 2, OUTSIDE).begin(2, 2, 1, 2, OUTSIDE).begin(-1, 2, 1, 2, OUTSIDE);
            x.begin(0, 100, 1, 2, OUTSIDE).begin(100, 100, 1, 2, OUTSIDE).begin(101, 100, 1, 2, OUTSIDE);
            for (int far : Edges.FAR) {
                x.begin(far, 100, 1, 2, OUTSIDE);
            }
        });
        // by 1 / 100 a hit has 50, by 99 / 100 a miss
        edges.fresh().begin(1, 100, 1, 50, 1).hit(true, 1).begin(99, 100, 1, 50, 1).hit(false, 1);
    }

    private void beginThrows() {
        edges.sentence(17, "IllegalArgumentException: the TRUST, as for bound().");
        int[][] wrong = {{1, 1}, {0, 1}, {0, 0}, {1, 1001}, {1000, 1001}, {1, -1}, {-3, -2}, {0, 2}, {2, 2}, {3, 2},
            {0, 1000}, {1000, 1000}, {-1, 2}, {1001, 1000}};
        edges.refusedEverywhere(x -> {
            for (int[] w : wrong) {
                x.beginThrows(1, 2, w[0], w[1]).beginThrows(99, 100, w[0], w[1]);
            }
            for (int far : Edges.FAR) {
                x.beginThrows(1, 2, 1, far).beginThrows(1, 2, far, far).beginThrows(1, 2, far, 2);
            }
        });
        edges.fresh().begin(1, 2, 1, 2, 1).begin(1, 2, 1, 1000, 1).begin(1, 2, 999, 1000, 1);

        edges.sentence(17, "A TEST of up / down (up 1 to down less 1) with a TRUST a / b");
        edges.fresh().begin(0, 2, 1, 2, OUTSIDE).test(0, NONE).beginThrows(1, 2, 0, 2).test(0, NONE)
                .beginThrows(1, 2, 2, 2).test(0, NONE).begin(1, 2, 1, 2, 1).test(0, 0);
    }

    private void beginOfSeveral() {
        edges.sentence(17, "Codes, of several the first one that a call names");
        edges.refusedEverywhere(x -> x.begin(1, 1, 0, 0, OUTSIDE).begin(1, 101, 2, 2, OUTSIDE)
                .begin(0, 2, 1, 1, OUTSIDE).begin(2, 2, 1, 1001, OUTSIDE));
    }

    private void hitsOneBehindTheOther() {
        edges.sentence(18, "with a TRUST a / b: tries come one behind the other.");
        // the same tries, but not as they came: a hit has just 2, with a miss ahead of it 16 / 18
        edges.fresh().begin(1, 4, 1, 2, 1).hit(true, 1).hit(false, 1).test(0, 2).test(1, 1).test(2, 1).test(3, 0);
        edges.fresh().begin(1, 4, 1, 2, 1).hit(false, 0).hit(true, 0).test(0, 2).test(1, 1).test(2, 0).test(3, 0);
        // calls that come between are no tries
        edges.fresh().begin(1, 4, 3, 16, 1).hit(true, 0).row(0, 1, 1, 1).draw(1, 1, false, 1).compare(1, 2, 0)
                .begin(0, 4, 1, 2, OUTSIDE).beginThrows(1, 4, 0, 2).drop(0).forget(1)
                .test(0, 1).hit(true, 1).test(2, 2);
    }

    private void hitWealthAtLeast() {
        edges.sentence(18, "A try: 1, it is REJECTED, else 0.");
        edges.fresh().begin(1, 4, 1, 2, 1).hit(true, 1);
        edges.fresh().begin(1, 4, 1, 2, 1).hit(false, 0);

        edges.sentence(18, "It is REJECTED behind the first try with which THE WEALTH is b / a at least");
        // three hits by 1 / 2 have just 2; 999 / 499 is a little above that, 1000 / 501 a little below
        edges.fresh().begin(1, 2, 1, 2, 1).hits(2, true, 0).hit(true, 1).test(2, 3);
        edges.fresh().begin(1, 2, 500, 1000, 1).hits(2, true, 0).hit(true, 1).test(2, 3);
        edges.fresh().begin(1, 2, 499, 999, 1).hits(3, true, 0).hit(true, 1).test(2, 4);
        edges.fresh().begin(1, 2, 501, 1000, 1).hits(2, true, 0).hit(true, 1).test(2, 3);
        // one try by 1 / 100 has 50 or 50 / 99, by 1 / 2 just 1
        edges.fresh().begin(1, 100, 1, 50, 1).hit(true, 1);
        edges.fresh().begin(1, 100, 1, 51, 1).hit(true, 0);
        edges.fresh().begin(1, 100, 999, 1000, 1).hit(false, 0);
        edges.fresh().begin(50, 100, 999, 1000, 1).hit(true, 0).hit(true, 1);
        edges.fresh().begin(49, 100, 999, 1000, 1).hit(true, 1);
        edges.fresh().begin(51, 100, 999, 1000, 1).hit(true, 0);

        edges.sentence(18, "THE WEALTH behind n tries, k of them hits, is down to the n-th by ((n + 1) times how many"
                + " sets of k out of n there are, times up to the k-th, times (down less up) to the (n less k)-th).");
        // one hit of two tries by 1 / 4: 16 by 3 times 2 times 1 times 3, below 1; two: 16 by 3
        edges.fresh().begin(1, 4, 8, 9, 1).hit(true, 1).hit(false, 1).test(3, 0);
        edges.fresh().begin(1, 4, 3, 16, 1).hit(true, 0).hit(true, 1).test(3, 1);
        edges.fresh().begin(1, 4, 3, 17, 1).hits(2, true, 0).test(3, 0);
        // the widest: 60 tries by 99 / 100 that are all hits, or by 1 / 100 none
        edges.fresh().begin(99, 100, 999, 1000, 1).hits(60, true, 0).test(3, 0);
        edges.fresh().begin(1, 100, 999, 1000, 1).hits(60, false, 0).test(3, 0);
        edges.fresh().begin(99, 100, 1, 1000, 1).hit(false, 0).hits(59, false, 1).test(2, 2).test(3, 1);
        edges.fresh().begin(1, 100, 1, 1000, 1).hit(true, 0).hits(59, true, 1).test(2, 2).test(3, 1);
    }

    private void hitFromThenOn() {
        edges.sentence(18, "and from then on");
        Subject x = edges.fresh().begin(1, 4, 1, 2, 1).hit(true, 1);
        for (int n = 2; n <= 60; n++) {
            x.hit(n % 4 == 0, 1).test(2, 1).test(3, 0);
        }
        x.hit(true, FULL).test(2, 1);
        edges.fresh().begin(1, 4, 1, 2, 1).hit(true, 1).hit(false, 1).begin(1, 4, 1, 2, 1).hit(false, 0).test(2, 0);
    }

    private void hitNone() {
        edges.sentence(18, "NONE: there is no TEST");
        edges.refused(State.EMPTY, x -> x.hit(true, NONE).hit(false, NONE).test(0, NONE));
        edges.in(State.SOME).clear(3).hit(true, NONE).hit(false, NONE).begin(1, 2, 1, 2, 1).test(0, 0);
        edges.fresh().begin(1, 1, 1, 2, OUTSIDE).hit(true, NONE).beginThrows(1, 2, 1, 1).hit(true, NONE);
    }

    private void hitFull() {
        edges.sentence(18, "FULL: there were 60.");
        edges.refused(State.FULL, x -> x.hit(true, FULL).hit(false, FULL).hit(true, FULL));
        edges.in(State.FULL).test(0, 60).test(1, 30).hit(true, FULL).test(0, 60).test(1, 30)
                .begin(1, 2, 1, 2, 1).hit(true, 0).test(0, 1);
        edges.fresh().begin(1, 100, 1, 1000, 1).hits(59, false, 0).hit(false, 0).hit(false, FULL).test(0, 60);
        // a TEST that was REJECTED has no more room either
        edges.fresh().begin(1, 4, 1, 2, 1).hits(60, true, 1).hit(true, FULL).hit(false, FULL).test(0, 60).test(2, 1);
    }

    private void testTriesAndHits() {
        edges.sentence(19, "Of the TEST: 0 tries, 1 hits");
        Subject x = edges.fresh().begin(1, 2, 1, 1000, 1).test(0, 0).test(1, 0);
        for (int n = 1; n <= 60; n++) {
            x.hit(n % 3 != 0 && n % 2 == 0, 0).test(0, n).test(1, n / 2 - n / 6);
        }
        edges.fresh().begin(99, 100, 1, 1000, 1).hits(60, true, 0).test(0, 60).test(1, 60);
        edges.fresh().begin(1, 100, 1, 1000, 1).hits(60, false, 0).test(0, 60).test(1, 0);
    }

    /** Three hits of four by 1 / 2: what they have grows, and is 355.3 behind the 60-th, ahead of it 240.8 at most. */
    private Subject slowly(int b) {
        Subject x = edges.fresh().begin(1, 2, 1, b, 1);
        for (int n = 1; n <= 59; n++) {
            x.hit((n + 2) % 4 < 3, 0);
        }
        return x;
    }

    private void testBehindWhich() {
        edges.sentence(19, "2 behind which try it was REJECTED (0: it was not)");
        edges.fresh().begin(1, 4, 1, 2, 1).test(2, 0).hit(true, 1).test(2, 1).hit(true, 1).test(2, 1);
        edges.fresh().begin(1, 2, 1, 20, 1).hits(7, true, 0).test(2, 0).hit(true, 1).test(2, 8).hit(true, 1).test(2, 8);
        slowly(355).test(2, 0).hit(true, 1).test(2, 60).test(3, 1).hit(true, FULL).test(2, 60);
        slowly(356).test(2, 0).hit(true, 0).test(2, 0).test(3, 0).hit(true, FULL).test(2, 0);
        // below b / a in between and at least that once more: the first try stays
        edges.fresh().begin(1, 4, 1, 2, 1).hit(true, 1).hit(false, 1).test(3, 0).hits(2, true, 1).test(3, 1).test(2, 1);
    }

    private void testNow() {
        edges.sentence(19, "3 whether THE WEALTH is b / a at least now (1, 0).");
        // ahead of all tries it is 1, and b / a is always above that
        edges.fresh().begin(1, 2, 999, 1000, 1).test(3, 0).begin(1, 100, 999, 1000, 1).test(3, 0);
        edges.fresh().begin(1, 4, 1, 2, 1).hit(true, 1).test(3, 1).hit(false, 1).test(3, 0);
        edges.fresh().begin(1, 2, 1, 2, 1).hits(2, true, 0).test(3, 0).hit(true, 1).test(3, 1);
        edges.fresh().begin(1, 2, 499, 999, 1).hits(3, true, 0).test(3, 0);
    }

    private void testNoneAndOutside() {
        edges.sentence(19, "NONE: there is none; OUTSIDE.");
        int[] wrong = {-1, 4, Integer.MIN_VALUE, Integer.MAX_VALUE};
        edges.refused(State.EMPTY, x -> {
            for (int what = 0; what <= 3; what++) {
                x.test(what, NONE);
            }
            for (int what : wrong) {
                x.test(what, NONE);
            }
        });
        for (State state : new State[] {State.SOME, State.FULL}) {
            edges.refused(state, x -> {
                for (int what : wrong) {
                    x.test(what, OUTSIDE);
                }
            });
        }
        edges.in(State.SOME).test(4, OUTSIDE).clear(3).test(4, NONE).test(0, NONE).test(3, NONE);
    }
}
