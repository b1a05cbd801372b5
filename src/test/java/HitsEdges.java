import java.math.BigInteger;

/** The sentences of promises 2 (above), 3 (odds) and 4 (bound), and of the terms that they use. */
final class HitsEdges {
    private static final int OUTSIDE = BoundDraws.OUTSIDE;
    private static final long ALL_BITS = 0xFFFFFFFFL;

    private final Edges edges;

    private HitsEdges(Edges edges) {
        this.edges = edges;
    }

    static void run(Edges edges) {
        HitsEdges it = new HitsEdges(edges);
        it.eachByItself();
        it.overAllWays();
        it.whichHitsCount();
        it.sumOfSets();
        it.nothingToTheNothing();
        it.limbs();
        it.aboveTries();
        it.aboveHits();
        it.aboveOdds();
        it.aboveSideAndLimb();
        it.oddsAnswers();
        it.oddsOutside();
        it.upper();
        it.lower();
        it.boundOutside();
        it.boundThrows();
        it.boundOfSeveral();
    }

    private void eachByItself() {
        edges.sentence(2, "Of n tries each is a hit with odds up / down (down at least 1, up 0 to down), by itself.");
        for (int up = 0; up <= 7; up++) {
            for (int n = 0; n <= 8; n++) {
                Subject x = edges.fresh();
                for (int k = 0; k <= n; k++) {
                    x.above(n, k, up, 7, 0, 0, eachWay(n, k, n, up, 7));
                    x.above(n, k, up, 7, 1, 0, eachWay(n, 0, k, up, 7));
                }
            }
        }
    }

    /** Each row of hits and misses by itself: what its tries have, one times the other. */
    private static long eachWay(int n, int least, int most, int up, int down) {
        long sum = 0;
        for (int way = 0; way < 1 << n; way++) {
            long product = 1;
            for (int i = 0; i < n; i++) {
                product *= (way >> i & 1) == 1 ? up : down - up;
            }
            sum += Integer.bitCount(way) >= least && Integer.bitCount(way) <= most ? product : 0;
        }
        return sum;
    }

    private void overAllWays() {
        edges.sentence(2, "is the whole number which over down to the power n is what that has for odds");
        // k or more and at most k less 1 are all there is: down to the power n, whatever the odds are
        BigInteger all = BigInteger.valueOf(997).pow(30);
        for (int up : new int[] {0, 1, 331, 996, 997}) {
            for (int k : new int[] {1, 2, 15, 29, 30}) {
                Subject x = edges.fresh();
                edges.isSame(up + " / 997, " + k + " of 30", all.toString(),
                        wholeOf(x, k, up, 0).add(wholeOf(x, k - 1, up, 1)).toString());
            }
        }
        // 4 of 8, 19 of 27, 1 of 100 and 100 of 10000: odds() tells each as just that
        edges.fresh().above(3, 2, 1, 2, 0, 0, 4).odds(3, 2, 1, 2, 0, 4, 8, 1).odds(3, 2, 1, 2, 0, 1, 2, 1)
                .above(3, 1, 1, 3, 0, 0, 19).odds(3, 1, 1, 3, 0, 19, 27, 1)
                .above(2, 2, 1, 10, 0, 0, 1).odds(2, 2, 1, 10, 0, 1, 100, 1)
                .above(2, 2, 10, 100, 0, 0, 100).odds(2, 2, 10, 100, 0, 1, 100, 1);
    }

    private static BigInteger wholeOf(Subject x, int k, int up, int side) {
        BigInteger whole = BigInteger.ZERO;
        for (int limb = 10; limb >= 0; limb--) {
            int i = limb;
            whole = whole.shiftLeft(32).add(new BigInteger(x.look(of -> of.above(30, k, up, 997, side, i))));
        }
        return whole;
    }

    private void sumOfSets() {
        edges.sentence(2, "the sum, of all numbers i of hits that count, of (how many sets of i out of n there are)"
                + " times up to the i-th, times (down less up) to the (n less i)-th (0 to the 0-th is 1).");
        // by 1 / 2 the sets alone: 30 out of 30, 29 or 30, and so on, with 155117520 of 15
        edges.fresh().above(30, 30, 1, 2, 0, 0, 1).above(30, 29, 1, 2, 0, 0, 31).above(30, 28, 1, 2, 0, 0, 466)
                .above(30, 0, 1, 2, 1, 0, 1).above(30, 1, 1, 2, 1, 0, 31).above(30, 2, 1, 2, 1, 0, 466)
                .above(30, 15, 1, 2, 0, 0, (1 << 29) + 155117520 / 2)
                .above(30, 14, 1, 2, 1, 0, (1 << 29) - 155117520 / 2);
        // by 3 / 7: 3 to the third times 4, and 4 to the third times 3, for each of 4 sets
        edges.fresh().above(4, 4, 3, 7, 0, 0, 81).above(4, 3, 3, 7, 0, 0, 81 + 4 * 27 * 4)
                .above(4, 0, 3, 7, 1, 0, 256).above(4, 1, 3, 7, 1, 0, 256 + 4 * 64 * 3);
    }

    private void whichHitsCount() {
        edges.sentence(2, "THE ABOVE of k or more hits (side 0), of at most k (side 1)");
        // by 1 / 3, of 3 tries: 8, 12, 6 and 1 ways for 0 to 3 hits
        long[] orMore = {27, 19, 7, 1};
        long[] atMost = {8, 20, 26, 27};
        for (int k = 0; k <= 3; k++) {
            edges.fresh().above(3, k, 1, 3, 0, 0, orMore[k]).above(3, k, 1, 3, 1, 0, atMost[k]);
        }
    }

    private void nothingToTheNothing() {
        edges.sentence(2, "(0 to the 0-th is 1)");
        edges.fresh().above(0, 0, 0, 1, 0, 0, 1).above(0, 0, 0, 1, 1, 0, 1)
                .above(0, 0, 1, 1, 0, 0, 1).above(0, 0, 1, 1, 1, 0, 1)
                .above(0, 0, 0, 1000, 0, 0, 1).above(0, 0, 1000, 1000, 1, 0, 1);
        // no hit is sure: 7 to the 3rd for all that takes in 0 hits, nothing for the rest
        edges.fresh().above(3, 0, 0, 7, 0, 0, 343).above(3, 0, 0, 7, 1, 0, 343)
                .above(3, 1, 0, 7, 0, 0, 0).above(3, 3, 0, 7, 1, 0, 343).above(3, 3, 0, 7, 0, 0, 0);
        // each try is a hit
        edges.fresh().above(3, 3, 7, 7, 0, 0, 343).above(3, 3, 7, 7, 1, 0, 343)
                .above(3, 2, 7, 7, 1, 0, 0).above(3, 0, 7, 7, 0, 0, 343).above(3, 0, 7, 7, 1, 0, 0);
    }

    private void limbs() {
        edges.sentence(2, "It is told by LIMBS of 32 bits, the lowest first.");
        // all less the one way of 16 hits of 16: 4 to the 16-th is 2 to the 32nd, 16 to the 16-th the 64th
        edges.fresh().above(16, 0, 1, 4, 0, 0, 0).above(16, 0, 1, 4, 0, 1, 1).above(16, 0, 1, 4, 0, 2, 0)
                .above(16, 15, 1, 4, 1, 0, ALL_BITS).above(16, 15, 1, 4, 1, 1, 0)
                .above(16, 0, 1, 16, 0, 0, 0).above(16, 0, 1, 16, 0, 1, 0).above(16, 0, 1, 16, 0, 2, 1)
                .above(16, 15, 1, 16, 1, 0, ALL_BITS).above(16, 15, 1, 16, 1, 1, ALL_BITS)
                .above(16, 15, 1, 16, 1, 2, 0);
        edges.fresh().above(1, 0, 1, 2, 0, 1, 0).above(1, 1, 0, 2, 0, 10, 0);

        edges.sentence(2, "LIMB i (0 to 10) of THE ABOVE.");
        BigInteger widest = BigInteger.valueOf(1000).pow(30).subtract(BigInteger.ONE);
        for (int i = 0; i <= 10; i++) {
            edges.fresh().above(30, 29, 1, 1000, 1, i, Model.limbOf(widest, i));
        }
        edges.fresh().above(30, 29, 1, 1000, 1, 0, ALL_BITS).above(30, 29, 1, 1000, 1, 9, 2010)
                .above(30, 29, 1, 1000, 1, 10, 0);
    }

    private void aboveTries() {
        edges.sentence(2, "OUTSIDE: n is not 0 to 30");
        edges.refusedEverywhere(x -> {
            x.above(-1, 0, 1, 2, 0, 0, OUTSIDE).above(-1, -1, 1, 2, 0, 0, OUTSIDE);
            x.above(31, 0, 1, 2, 0, 0, OUTSIDE).above(31, 31, 1, 2, 1, 0, OUTSIDE);
            for (int far : Edges.FAR) {
                x.above(far, 0, 1, 2, 0, 0, OUTSIDE).above(far, far, 1, 2, 0, 0, OUTSIDE);
            }
        });
        edges.fresh().above(0, 0, 1, 2, 0, 0, 1).above(30, 0, 1, 2, 0, 0, 1 << 30).above(30, 30, 1, 2, 0, 0, 1);
    }

    private void aboveHits() {
        edges.sentence(2, "k not 0 to n");
        edges.refusedEverywhere(x -> {
            x.above(0, -1, 1, 2, 0, 0, OUTSIDE).above(0, 1, 1, 2, 0, 0, OUTSIDE);
            x.above(3, -1, 1, 2, 1, 0, OUTSIDE).above(3, 4, 1, 2, 1, 0, OUTSIDE);
            x.above(30, -1, 1, 2, 0, 0, OUTSIDE).above(30, 31, 1, 2, 0, 0, OUTSIDE);
            for (int far : Edges.FAR) {
                x.above(30, far, 1, 2, 0, 0, OUTSIDE);
            }
        });
        edges.fresh().above(3, 0, 1, 2, 0, 0, 8).above(3, 3, 1, 2, 0, 0, 1)
                .above(30, 0, 1, 2, 1, 0, 1).above(30, 30, 1, 2, 1, 0, 1 << 30);
    }

    private void aboveOdds() {
        edges.sentence(2, "(down at least 1, up 0 to down)");
        edges.fresh().above(1, 1, 0, 1, 0, 0, 0).above(1, 1, 1, 1, 0, 0, 1).above(1, 1, 0, 2, 0, 0, 0)
                .above(1, 1, 2, 2, 0, 0, 2).above(1, 1, 0, 0, 0, 0, OUTSIDE).above(1, 1, 2, 1, 0, 0, OUTSIDE)
                .above(1, 1, -1, 1, 0, 0, OUTSIDE).above(1, 1, 3, 2, 0, 0, OUTSIDE);

        edges.sentence(2, "down not 1 to 1000");
        edges.refusedEverywhere(x -> {
            x.above(3, 1, 0, 0, 0, 0, OUTSIDE).above(0, 0, 0, 0, 0, 0, OUTSIDE).above(3, 1, 1, 0, 0, 0, OUTSIDE);
            x.above(3, 1, 0, -1, 0, 0, OUTSIDE).above(3, 1, -1, -1, 0, 0, OUTSIDE);
            x.above(3, 1, 0, 1001, 0, 0, OUTSIDE).above(3, 1, 1001, 1001, 0, 0, OUTSIDE);
            for (int far : Edges.FAR) {
                x.above(3, 1, 0, far, 0, 0, OUTSIDE).above(3, 1, far, far, 0, 0, OUTSIDE);
            }
        });
        edges.fresh().above(3, 0, 1, 1, 0, 0, 1).above(3, 0, 1, 1000, 0, 0, 1000000000);

        edges.sentence(2, "up not 0 to down");
        edges.refusedEverywhere(x -> {
            x.above(3, 1, -1, 1, 0, 0, OUTSIDE).above(3, 1, 2, 1, 0, 0, OUTSIDE);
            x.above(3, 1, -1, 1000, 0, 0, OUTSIDE).above(3, 1, 1001, 1000, 0, 0, OUTSIDE);
            x.above(0, 0, 3, 2, 0, 0, OUTSIDE);
            for (int far : Edges.FAR) {
                x.above(3, 1, far, 1000, 0, 0, OUTSIDE);
            }
        });
        edges.fresh().above(1, 1, 0, 1000, 0, 0, 0).above(1, 1, 1, 1000, 0, 0, 1)
                .above(1, 1, 999, 1000, 0, 0, 999).above(1, 1, 1000, 1000, 0, 0, 1000);
    }

    private void aboveSideAndLimb() {
        edges.sentence(2, "side not 0 or 1");
        edges.refusedEverywhere(x -> {
            x.above(3, 1, 1, 2, -1, 0, OUTSIDE).above(3, 1, 1, 2, 2, 0, OUTSIDE);
            for (int far : Edges.FAR) {
                x.above(3, 1, 1, 2, far, 0, OUTSIDE);
            }
        });
        edges.fresh().above(3, 1, 1, 2, 0, 0, 7).above(3, 1, 1, 2, 1, 0, 4);

        edges.sentence(2, "side not 0 or 1, i.");
        edges.refusedEverywhere(x -> {
            x.above(30, 0, 1, 1000, 0, -1, OUTSIDE).above(30, 0, 1, 1000, 0, 11, OUTSIDE);
            for (int far : Edges.FAR) {
                x.above(30, 0, 1, 1000, 0, far, OUTSIDE);
            }
        });
        edges.fresh().above(30, 0, 1, 1000, 0, 10, 0).above(3, 0, 1, 2, 0, 0, 8);
    }

    private void oddsAnswers() {
        edges.sentence(3, "Whether the odds of these hits are below a / b (0), just that (1), above (2).");
        // one try: the two fractions differ by 1 over both lower numbers, the least there can be
        edges.fresh().odds(1, 1, 332, 997, 0, 1, 3, 0).odds(1, 1, 333, 999, 0, 1, 3, 1)
                .odds(1, 1, 333, 998, 0, 1, 3, 2).odds(1, 0, 665, 997, 1, 1, 3, 0)
                .odds(1, 0, 666, 999, 1, 1, 3, 1).odds(1, 0, 665, 998, 1, 1, 3, 2)
                .odds(1, 0, 665, 997, 1, 333, 1000, 0);
        // all but 1 of 1000 to the 30-th, and that 1: next to 1 and next to 0
        edges.fresh().odds(30, 29, 1, 1000, 1, 1, 1, 0).odds(30, 29, 1, 1000, 1, 1000, 1000, 0)
                .odds(30, 30, 1, 1000, 1, 1000, 1000, 1).odds(30, 29, 1, 1000, 1, 999, 1000, 2)
                .odds(30, 30, 1, 1000, 0, 0, 1, 2).odds(30, 30, 1, 1000, 0, 0, 1000, 2)
                .odds(30, 30, 0, 1000, 0, 0, 1000, 1).odds(30, 30, 1, 1000, 0, 1, 1000, 0);
        edges.fresh().odds(30, 15, 1, 2, 0, 1, 2, 2).odds(29, 15, 1, 2, 0, 1, 2, 1)
                .odds(29, 14, 1, 2, 1, 1, 2, 1).odds(30, 14, 1, 2, 1, 1, 2, 0);
        edges.fresh().odds(0, 0, 0, 1, 0, 1, 1, 1).odds(0, 0, 0, 1, 1, 999, 1000, 2)
                .odds(0, 0, 1, 1, 0, 0, 1, 2);
    }

    private void oddsOutside() {
        edges.sentence(3, "OUTSIDE: as above()");
        int[][] wrong = {
            {-1, 0, 1, 2, 0}, {31, 0, 1, 2, 0}, {31, 31, 1, 2, 0}, {0, 1, 1, 2, 0}, {3, -1, 1, 2, 0},
            {3, 4, 1, 2, 0}, {30, 31, 1, 2, 0}, {3, 1, 0, 0, 0}, {3, 1, -1, -1, 0}, {3, 1, 0, 1001, 0},
            {3, 1, 1001, 1001, 0}, {3, 1, -1, 1, 0}, {3, 1, 2, 1, 0}, {3, 1, 1001, 1000, 0},
            {3, 1, 1, 2, -1}, {3, 1, 1, 2, 2}, {0, 0, 0, 0, 0}};
        edges.refusedEverywhere(x -> {
            for (int[] w : wrong) {
                x.odds(w[0], w[1], w[2], w[3], w[4], 1, 2, OUTSIDE);
            }
            for (int far : Edges.FAR) {
                x.odds(far, 0, 1, 2, 0, 1, 2, OUTSIDE).odds(3, far, 1, 2, 0, 1, 2, OUTSIDE);
                x.odds(3, 1, far, 2, 0, 1, 2, OUTSIDE).odds(3, 1, 0, far, 0, 1, 2, OUTSIDE);
                x.odds(3, 1, 1, 2, far, 1, 2, OUTSIDE);
            }
        });
        edges.fresh().odds(0, 0, 0, 1, 0, 1, 2, 2).odds(30, 30, 1000, 1000, 0, 1, 1, 1)
                .odds(30, 0, 1, 1000, 1, 1, 1, 0).odds(30, 30, 0, 1, 1, 1, 1, 1);

        edges.sentence(3, "b is not 1 to 1000");
        edges.refusedEverywhere(x -> {
            x.odds(3, 1, 1, 2, 0, 0, 0, OUTSIDE).odds(3, 1, 1, 2, 0, 1, 0, OUTSIDE);
            x.odds(3, 1, 1, 2, 0, 0, 1001, OUTSIDE).odds(3, 1, 1, 2, 0, 1001, 1001, OUTSIDE);
            x.odds(3, 1, 1, 2, 0, -1, -1, OUTSIDE).odds(3, 1, 1, 2, 0, 0, -1, OUTSIDE);
            for (int far : Edges.FAR) {
                x.odds(3, 1, 1, 2, 0, 0, far, OUTSIDE).odds(3, 1, 1, 2, 0, far, far, OUTSIDE);
            }
        });
        edges.fresh().odds(3, 1, 1, 2, 0, 0, 1, 2).odds(3, 1, 1, 2, 0, 1, 1, 0)
                .odds(3, 1, 1, 2, 0, 875, 1000, 1).odds(3, 1, 1, 2, 0, 7, 8, 1);

        edges.sentence(3, "a not 0 to b");
        edges.refusedEverywhere(x -> {
            x.odds(3, 1, 1, 2, 0, -1, 1, OUTSIDE).odds(3, 1, 1, 2, 0, 2, 1, OUTSIDE);
            x.odds(3, 1, 1, 2, 0, -1, 1000, OUTSIDE).odds(3, 1, 1, 2, 0, 1001, 1000, OUTSIDE);
            for (int far : Edges.FAR) {
                x.odds(3, 1, 1, 2, 0, far, 1000, OUTSIDE);
            }
        });
        edges.fresh().odds(3, 0, 1, 2, 0, 1000, 1000, 1).odds(3, 1, 0, 2, 0, 0, 1000, 1)
                .odds(3, 1, 0, 2, 0, 0, 1, 1).odds(3, 0, 1, 2, 0, 1, 1, 1);
    }

    private void upper() {
        edges.sentence(4, "THE UPPER (side 0), THE LOWER (1) of k of n by a TRUST.");
        edges.fresh().bound(30, 15, 0, 1, 40, 688).bound(30, 15, 1, 1, 40, 312)
                .bound(30, 15, 0, 1, 2, 517).bound(30, 15, 1, 1, 2, 483);

        edges.sentence(4, "THE UPPER of k of n is the least q of 0 to 1000 such that at most k hits, by q / 1000,"
                + " have odds that are not above a / b");
        // one try, no hit: the odds are 1 less q / 1000, and those that are just a / b are not above it
        edges.fresh().bound(1, 0, 0, 49, 1000, 951).bound(1, 0, 0, 50, 1000, 950).bound(1, 0, 0, 51, 1000, 949)
                .bound(1, 0, 0, 1, 20, 950).bound(1, 0, 0, 1, 1000, 999).bound(1, 0, 0, 999, 1000, 1)
                .bound(1, 0, 0, 1, 3, 667).bound(1, 0, 0, 2, 3, 334);
        edges.fresh().bound(2, 0, 0, 1, 4, 500).bound(2, 0, 0, 249, 1000, 502).bound(2, 0, 0, 251, 1000, 500)
                .bound(30, 0, 0, 999, 1000, 1).bound(30, 0, 0, 1, 1000, 206);
        // found as the last one of all
        edges.fresh().bound(30, 29, 0, 1, 1000, 1000);

        edges.sentence(4, "1000, if there is none");
        edges.fresh().bound(1, 1, 0, 1, 2, 1000).bound(1, 1, 0, 999, 1000, 1000).bound(1, 1, 0, 1, 1000, 1000)
                .bound(30, 30, 0, 1, 2, 1000).bound(30, 30, 0, 999, 1000, 1000).bound(17, 17, 0, 1, 2, 1000);
    }

    private void lower() {
        edges.sentence(4, "THE LOWER is the greatest q such that k or more hits have odds that are not above it");
        edges.fresh().bound(1, 1, 1, 49, 1000, 49).bound(1, 1, 1, 50, 1000, 50).bound(1, 1, 1, 51, 1000, 51)
                .bound(1, 1, 1, 1, 20, 50).bound(1, 1, 1, 1, 1000, 1).bound(1, 1, 1, 999, 1000, 999)
                .bound(1, 1, 1, 1, 3, 333).bound(1, 1, 1, 2, 3, 666);
        edges.fresh().bound(2, 2, 1, 1, 4, 500).bound(2, 2, 1, 249, 1000, 498).bound(2, 2, 1, 251, 1000, 500)
                .bound(30, 30, 1, 999, 1000, 999).bound(30, 30, 1, 1, 1000, 794);
        // found as the last one of all
        edges.fresh().bound(30, 1, 1, 1, 1000, 0);

        edges.sentence(4, "0, if there is none");
        edges.fresh().bound(1, 0, 1, 1, 2, 0).bound(1, 0, 1, 999, 1000, 0).bound(1, 0, 1, 1, 1000, 0)
                .bound(30, 0, 1, 1, 2, 0).bound(30, 0, 1, 999, 1000, 0).bound(17, 0, 1, 1, 2, 0);
    }

    private void boundOutside() {
        edges.sentence(4, "OUTSIDE: n (1 to 30), k, side.");
        edges.refusedEverywhere(x -> {
            x.bound(0, 0, 0, 1, 2, OUTSIDE).bound(0, 0, 1, 1, 2, OUTSIDE).bound(-1, 0, 0, 1, 2, OUTSIDE);
            x.bound(31, 0, 0, 1, 2, OUTSIDE).bound(31, 31, 1, 1, 2, OUTSIDE);
            x.bound(1, -1, 0, 1, 2, OUTSIDE).bound(1, 2, 0, 1, 2, OUTSIDE);
            x.bound(30, -1, 1, 1, 2, OUTSIDE).bound(30, 31, 1, 1, 2, OUTSIDE);
            x.bound(5, 3, -1, 1, 2, OUTSIDE).bound(5, 3, 2, 1, 2, OUTSIDE);
            for (int far : Edges.FAR) {
                x.bound(far, 0, 0, 1, 2, OUTSIDE).bound(5, far, 0, 1, 2, OUTSIDE).bound(5, 3, far, 1, 2, OUTSIDE);
            }
        });
        edges.fresh().bound(1, 0, 0, 1, 2, 500).bound(1, 1, 1, 1, 2, 500)
                .bound(30, 0, 0, 1, 1000, 206).bound(30, 30, 1, 1, 1000, 794);
    }

    private void boundThrows() {
        edges.sentence(4, "IllegalArgumentException: b is not 2 to 1000");
        edges.refusedEverywhere(x -> {
            for (int side = 0; side <= 1; side++) {
                x.boundThrows(5, 3, side, 1, 1).boundThrows(5, 3, side, 0, 1).boundThrows(5, 3, side, 0, 0);
                x.boundThrows(5, 3, side, 1, 1001).boundThrows(5, 3, side, 1000, 1001);
                x.boundThrows(5, 3, side, 1, -1).boundThrows(5, 3, side, -3, -2);
                for (int far : Edges.FAR) {
                    x.boundThrows(5, 3, side, 1, far).boundThrows(5, 3, side, far, far);
                }
            }
        });
        edges.fresh().bound(1, 0, 0, 1, 2, 500).bound(1, 0, 0, 1, 1000, 999);

        edges.sentence(4, "or a not 1 to b less 1.");
        edges.refusedEverywhere(x -> {
            for (int side = 0; side <= 1; side++) {
                x.boundThrows(5, 3, side, 0, 2).boundThrows(5, 3, side, 2, 2).boundThrows(5, 3, side, 3, 2);
                x.boundThrows(5, 3, side, 0, 1000).boundThrows(5, 3, side, 1000, 1000);
                x.boundThrows(5, 3, side, -1, 2).boundThrows(5, 3, side, 1001, 1000);
                for (int far : Edges.FAR) {
                    x.boundThrows(5, 3, side, far, 2);
                }
            }
        });
        edges.fresh().bound(1, 0, 0, 1, 1000, 999).bound(1, 0, 0, 999, 1000, 1).bound(1, 0, 0, 1, 2, 500);

        edges.sentence(4, "A TRUST a / b (0 less than a, a less than b) bounds from above");
        edges.refusedEverywhere(x -> x.boundThrows(1, 0, 0, 0, 20).boundThrows(1, 0, 0, 20, 20)
                .bound(1, 0, 0, 1, 20, 950).bound(1, 0, 0, 19, 20, 50));
    }

    private void boundOfSeveral() {
        edges.sentence(4, "Codes, of several the first one that a call names");
        edges.refusedEverywhere(x -> {
            x.bound(0, 0, 0, 0, 0, OUTSIDE).bound(31, 3, 0, 2, 2, OUTSIDE).bound(5, 6, 0, 1, 1, OUTSIDE);
            x.bound(5, -1, 1, 1, 1001, OUTSIDE).bound(5, 3, 2, 0, 2, OUTSIDE).bound(5, 3, -1, 5, 5, OUTSIDE);
        });
    }
}
