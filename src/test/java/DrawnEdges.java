/** The sentences of promises 10 (draw), 11 (drawn), 12 (percentile) and 13 (share), and of their terms. */
final class DrawnEdges {
    private static final int OUTSIDE = BoundDraws.OUTSIDE;
    private static final int NONE = BoundDraws.NONE;
    /** The seeds by which the first x is 0, all bits, the lowest long and the greatest. */
    private static final long TO_NOTHING = -7379792620528906219L;
    private static final long TO_ALL_BITS = -2810872687533676688L;
    private static final long TO_LOWEST = 1843579416325869589L;
    private static final long TO_GREATEST = 6412499349321099120L;

    private final Edges edges;

    private DrawnEdges(Edges edges) {
        this.edges = edges;
    }

    static void run(Edges edges) {
        DrawnEdges it = new DrawnEdges(edges);
        it.drawAnswers();
        it.drawWraps();
        it.drawGroups();
        it.drawInPlace();
        it.drawRefused();
        it.drawnBySize();
        it.drawnInLowestTerms();
        it.drawnThrows();
        it.drawnOutside();
        it.percentileUpwards();
        it.percentileInLowestTerms();
        it.percentileOutside();
        it.percentileNone();
        it.shareCut();
        it.shareThrows();
    }

    /** By the digits of a sum it can be told which rows were drawn. */
    private Subject withOneTenHundred() {
        return edges.fresh().row(0, 1, 0, 1).row(0, 10, 0, 2).row(0, 100, 0, 3);
    }

    private Subject withUpAndDown() {
        return edges.fresh().row(0, 1, 0, 1).row(0, 0, 1, 2);
    }

    /** Thirty rows that have, by the seed 16, sixty means of which no two are the same. */
    private Subject withThirty() {
        Subject x = edges.fresh();
        for (int i = 0; i < 30; i++) {
            x.row(i % 8, i * i * 7 % 101, i * 13 % 37, i + 1);
        }
        return x;
    }

    private void drawAnswers() {
        edges.sentence(10, "DRAWN ANEW so many times (1 to 60)");
        edges.refusedEverywhere(x -> {
            for (boolean groups : new boolean[] {false, true}) {
                x.draw(1, 0, groups, OUTSIDE).draw(1, -1, groups, OUTSIDE).draw(1, 61, groups, OUTSIDE);
                x.draw(1, Integer.MIN_VALUE, groups, OUTSIDE).draw(1, Integer.MAX_VALUE, groups, OUTSIDE);
            }
        });
        for (boolean groups : new boolean[] {false, true}) {
            edges.in(State.SOME).draw(1, 1, groups, groups ? 2 : 3).count(2, 1);
            edges.in(State.SOME).draw(1, 60, groups, groups ? 2 : 3).count(2, 60);
        }

        edges.sentence(10, "how many UNITS each time.");
        edges.fresh().row(5, 1, 0, 1).draw(1, 1, false, 1).draw(1, 1, true, 1)
                .row(5, 1, 0, 2).draw(1, 1, false, 2).draw(1, 1, true, 1)
                .row(0, 1, 0, 3).draw(1, 1, false, 3).draw(1, 1, true, 2)
                .drop(2).draw(1, 1, false, 2).draw(1, 1, true, 1);
        edges.in(State.FULL).draw(1, 60, false, 30).draw(1, 60, true, 8);
    }

    private void drawWraps() {
        edges.sentence(10, "DRAWN ANEW, so many times, by a seed: x is the seed first; a DRAW below m: x becomes x *"
                + " 6364136223846793005 +"
                + " 1442695040888963407 (64 bits, wrapping), and it is x &gt;&gt;&gt; 33, modulo m.");
        // twice three draws each, the second time with the x that the first one left
        meansAre(withOneTenHundred(), 3, 0, 37, 70);
        meansAre(withOneTenHundred(), 3, 1, 34, 34);
        meansAre(withOneTenHundred(), 3, -1, 40, 67);
        meansAre(withOneTenHundred(), 3, Long.MIN_VALUE, 4, 37);
        meansAre(withOneTenHundred(), 3, Long.MAX_VALUE, 4, 37);
        meansAre(withOneTenHundred(), 3, TO_NOTHING, 34, 40);
        meansAre(withOneTenHundred(), 3, TO_ALL_BITS, 37, 40);
        meansAre(withOneTenHundred(), 3, TO_LOWEST, 7, 34);
        meansAre(withOneTenHundred(), 3, TO_GREATEST, 4, 34);
        // below 1 it is always the one there is
        meansAre(edges.fresh().row(0, 0, 100, 1), 1, TO_ALL_BITS, -100, -100);
        meansAre(edges.fresh().row(0, 100, 0, 1), 1, Long.MIN_VALUE, 100, 100);
    }

    private void meansAre(Subject x, int rows, long seed, long first, long second) {
        x.draw(seed, 2, false, rows).drawn(0, 0, first).drawn(0, 1, 1).drawn(1, 0, second).drawn(1, 1, 1);
    }

    private void drawGroups() {
        edges.sentence(10, "Each time as many UNITS are drawn as there are, one behind the other, each by a DRAW"
                + " below how many there are; the MEAN of that time is the sum of their DIFFERENCES by how many rows"
                + " they have together.");
        // groups 1, 3 and 6 with -20 by 1 row, 0 by 2, 55 by 3: by their numbers, not as they came
        long[][] uppers = {{35, 90, 55}, {3, 3, 35}, {35, 55, 90}};
        long[][] lowers = {{6, 7, 4}, {1, 1, 6}, {6, 7, 7}};
        for (int seed = 0; seed < 3; seed++) {
            Subject x = edges.fresh().row(6, 10, 3, 1).row(3, 8, 4, 2).row(1, 10, 30, 3).row(6, 50, 0, 4)
                    .row(3, 1, 5, 5).row(6, 0, 2, 6).row(0, 9, 0, 7).drop(6);
            x.draw(seed == 2 ? -1 : seed, 3, true, 3);
            for (int i = 0; i < 3; i++) {
                x.drawn(i, 0, uppers[seed][i]).drawn(i, 1, lowers[seed][i]);
            }
        }
    }

    private void drawInPlace() {
        edges.sentence(10, "in place of what was drawn before");
        edges.in(State.FULL).count(2, 60).draw(1, 1, false, 30).count(2, 1).drawnThrows(1, 0).drawnThrows(59, 0)
                .draw(1, 60, true, 8).count(2, 60).draw(1, 2, true, 8).count(2, 2).drawnThrows(2, 1);
        edges.fresh().row(0, 9, 0, 1).draw(1, 3, false, 1).drop(0).row(0, 0, 4, 1).drawn(2, 0, 9)
                .draw(1, 2, false, 1).drawn(0, 0, -4).drawn(1, 0, -4).share(0);
        // the same seed once more begins anew, too
        meansAre(withOneTenHundred(), 3, 0, 37, 70);
        Subject x = withOneTenHundred().draw(0, 2, false, 3).draw(0, 2, false, 3).drawn(0, 0, 37).drawn(1, 0, 70);
        x.count(2, 2);
    }

    private void drawRefused() {
        edges.sentence(10, "OUTSIDE; NONE: there are no rows.");
        edges.refused(State.EMPTY, x -> x.draw(1, 1, false, NONE).draw(1, 60, true, NONE).draw(-1, 30, false, NONE)
                .draw(1, 0, false, OUTSIDE).draw(1, 61, true, OUTSIDE));
        // what was drawn before stays, as the call changes nothing
        edges.fresh().row(0, 9, 0, 1).draw(1, 3, false, 1).drop(0)
                .draw(1, 5, false, NONE).draw(1, 5, true, NONE).draw(1, 0, true, OUTSIDE).count(2, 3).drawn(2, 0, 9);
    }

    private void drawnBySize() {
        edges.sentence(11, "The i-th MEAN, by size, from 0 on.");
        edges.in(State.SOME).clear(3).row(0, 70, 20, 1).draw(1, 1, false, 1).drawn(0, 0, 50).drawn(0, 1, 1)
                .drawnThrows(1, 0);

        edges.sentence(11, "MEANS stand by size.");
        // by the seed 5 they come as 0, -1 and 1 in some order: two of -1, four of 0, one of 1
        Subject x = withUpAndDown().draw(5, 7, false, 2);
        long[] want = {-1, -1, 0, 0, 0, 0, 1};
        for (int i = 0; i < 7; i++) {
            x.drawn(i, 0, want[i]).drawn(i, 1, 1);
        }
        // by size, not by their upper numbers: 35 / 6, 90 / 7, 55 / 4
        Subject y = edges.fresh().row(1, 0, 20, 1).row(3, 1, 1, 2).row(3, 1, 1, 3)
                .row(6, 10, 3, 4).row(6, 50, 0, 5).row(6, 0, 2, 6).draw(0, 3, true, 3);
        y.drawn(0, 0, 35).drawn(1, 0, 90).drawn(2, 0, 55);
        risesStrictly(withThirty().draw(16, 60, false, 30));
    }

    private void risesStrictly(Subject x) {
        for (int i = 0; i + 1 < 60; i++) {
            int at = i;
            long upper = Long.parseLong(x.look(of -> of.drawn(at, 0)));
            long lower = Long.parseLong(x.look(of -> of.drawn(at, 1)));
            long nextUpper = Long.parseLong(x.look(of -> of.drawn(at + 1, 0)));
            long nextLower = Long.parseLong(x.look(of -> of.drawn(at + 1, 1)));
            edges.isSame("mean " + i + " is below the next", "true", "" + (upper * nextLower < nextUpper * lower));
        }
    }

    private void drawnInLowestTerms() {
        edges.sentence(11, "Fractions are in lowest terms, told by side: 0 the upper number, 1 the lower one"
                + " (0 is 0 / 1).");
        edges.fresh().row(0, 7, 7, 1).row(0, 0, 0, 2).draw(1, 3, false, 2).drawn(0, 0, 0).drawn(0, 1, 1)
                .drawn(2, 0, 0).drawn(2, 1, 1);
        Subject x = edges.fresh();
        Subject y = edges.fresh();
        for (int i = 1; i <= 30; i++) {
            x.row(i % 8, 0, 100, i);
            y.row(i % 8, 100, 0, i);
        }
        x.draw(1, 1, false, 30).drawn(0, 0, -100).drawn(0, 1, 1).draw(1, 1, true, 8).drawn(0, 0, -100).drawn(0, 1, 1);
        y.draw(1, 1, false, 30).drawn(0, 0, 100).drawn(0, 1, 1).percentile(1, 1, 1, 1);
        edges.fresh().row(0, 0, 1, 1).row(0, 0, 2, 2).draw(0, 1, false, 2).drawn(0, 0, -3).drawn(0, 1, 2)
                .percentile(0, 1, 0, -3).percentile(0, 1, 1, 2);
    }

    private void drawnThrows() {
        edges.sentence(11, "IndexOutOfBoundsException: there is none such.");
        edges.refused(State.EMPTY, x -> {
            for (int side = 0; side <= 1; side++) {
                x.drawnThrows(0, side).drawnThrows(-1, side).drawnThrows(59, side).drawnThrows(60, side);
            }
        });
        edges.refused(State.SOME, x -> {
            for (int side = 0; side <= 1; side++) {
                x.drawnThrows(9, side).drawnThrows(-1, side).drawnThrows(10, side).drawnThrows(60, side);
                x.drawnThrows(Integer.MIN_VALUE, side).drawnThrows(Integer.MAX_VALUE, side);
            }
        });
        edges.refused(State.FULL, x -> {
            for (int side = 0; side <= 1; side++) {
                x.drawnThrows(60, side).drawnThrows(-1, side).drawnThrows(61, side);
                x.drawnThrows(Integer.MIN_VALUE, side).drawnThrows(Integer.MAX_VALUE, side);
            }
        });
        edges.fresh().row(0, 9, 0, 1).drawnThrows(0, 0).draw(1, 60, false, 1).drawn(0, 0, 9).drawn(59, 0, 9)
                .drawn(59, 1, 1).draw(1, 1, false, 1).drawn(0, 0, 9).drawnThrows(1, 0).clear(1).drawnThrows(0, 0);
    }

    private void drawnOutside() {
        edges.sentence(11, "OUTSIDE: side (first).");
        edges.refusedEverywhere(x -> {
            for (int side : new int[] {-1, 2, Integer.MIN_VALUE, Integer.MAX_VALUE}) {
                x.drawn(0, side, OUTSIDE).drawn(-1, side, OUTSIDE).drawn(9, side, OUTSIDE).drawn(60, side, OUTSIDE);
            }
        });
    }

    /** Which mean it is, is told by what drawn() answers for its number. */
    private void stands(Subject x, int up, int down, int number) {
        for (int side = 0; side <= 1; side++) {
            int of = side;
            x.percentile(up, down, side, Long.parseLong(x.look(it -> it.drawn(number, of))));
        }
    }

    private void percentileUpwards() {
        edges.sentence(12, "Of m MEANS that with as many ahead of it as is m up / down, upwards, less 1, 0 at least.");
        Subject x = withThirty().draw(16, 60, false, 30);
        stands(x, 0, 1, 0);
        stands(x, 0, 1000, 0);
        stands(x, 1, 1000, 0);
        stands(x, 1, 60, 0);
        stands(x, 16, 1000, 0);
        stands(x, 17, 1000, 1);
        stands(x, 2, 60, 1);
        stands(x, 2, 59, 2);
        stands(x, 1, 2, 29);
        stands(x, 499, 1000, 29);
        stands(x, 501, 1000, 30);
        stands(x, 29, 60, 28);
        stands(x, 59, 60, 58);
        stands(x, 983, 1000, 58);
        stands(x, 984, 1000, 59);
        stands(x, 999, 1000, 59);
        stands(x, 1, 1, 59);
        stands(x, 1000, 1000, 59);
        Subject ten = withThirty().draw(0, 10, false, 30);
        stands(ten, 299, 1000, 2);
        stands(ten, 300, 1000, 2);
        stands(ten, 301, 1000, 3);
        stands(ten, 3, 10, 2);
        stands(ten, 1, 3, 3);
        stands(ten, 1, 10, 0);
        stands(ten, 101, 1000, 1);
        stands(ten, 1, 1, 9);
        Subject one = withThirty().draw(0, 1, false, 30);
        stands(one, 0, 1, 0);
        stands(one, 1, 1000, 0);
        stands(one, 1, 2, 0);
        stands(one, 1, 1, 0);
        Subject two = withThirty().draw(0, 2, false, 30);
        stands(two, 0, 1, 0);
        stands(two, 1, 2, 0);
        stands(two, 501, 1000, 1);
        stands(two, 1, 1, 1);
    }

    private void percentileInLowestTerms() {
        edges.sentence(12, "Fractions are in lowest terms, told by side: 0 the upper number, 1 the lower one"
                + " (0 is 0 / 1).");
        // by the seed 5 the middle ones are 0
        withUpAndDown().draw(5, 7, false, 2).percentile(0, 1, 0, -1).percentile(0, 1, 1, 1)
                .percentile(1, 2, 0, 0).percentile(1, 2, 1, 1).percentile(1, 1, 0, 1).percentile(1, 1, 1, 1);
        edges.fresh().row(0, 0, 2, 1).row(0, 0, 4, 2).draw(0, 1, false, 2).percentile(1, 2, 0, -3)
                .percentile(1, 2, 1, 1);
    }

    private void percentileOutside() {
        edges.sentence(12, "OUTSIDE: down is not 1 to 1000, up not 0 to down, side");
        edges.refusedEverywhere(x -> {
            x.percentile(0, 0, 0, OUTSIDE).percentile(1, 0, 0, OUTSIDE).percentile(0, 1001, 0, OUTSIDE);
            x.percentile(1001, 1001, 0, OUTSIDE).percentile(-1, -1, 0, OUTSIDE).percentile(0, -1, 0, OUTSIDE);
            x.percentile(-1, 1, 0, OUTSIDE).percentile(2, 1, 0, OUTSIDE).percentile(-1, 1000, 0, OUTSIDE);
            x.percentile(1001, 1000, 1, OUTSIDE).percentile(1, 2, -1, OUTSIDE).percentile(1, 2, 2, OUTSIDE);
            for (int far : Edges.FAR) {
                x.percentile(0, far, 0, OUTSIDE).percentile(far, far, 0, OUTSIDE);
                x.percentile(far, 1000, 0, OUTSIDE).percentile(1, 2, far, OUTSIDE);
            }
        });
        edges.fresh().row(0, 9, 0, 1).draw(1, 60, false, 1).percentile(0, 1, 0, 9).percentile(1, 1, 0, 9)
                .percentile(0, 1000, 1, 1).percentile(1000, 1000, 1, 1);
    }

    private void percentileNone() {
        edges.sentence(12, "NONE: nothing was drawn.");
        edges.refused(State.EMPTY, x -> x.percentile(0, 1, 0, NONE).percentile(1, 1, 1, NONE)
                .percentile(1000, 1000, 0, NONE));
        edges.fresh().row(0, 9, 0, 1).percentile(1, 2, 0, NONE).draw(1, 1, false, 1).percentile(1, 2, 0, 9)
                .clear(1).percentile(1, 2, 0, NONE);

        edges.sentence(12, "Codes, of several the first one that a call names");
        edges.refused(State.EMPTY, x -> x.percentile(0, 0, 0, OUTSIDE).percentile(2, 1, 0, OUTSIDE)
                .percentile(1, 2, 2, OUTSIDE));
    }

    private void shareCut() {
        edges.sentence(13, "1000 times how many MEANS are above 0 by how many there are, cut.");
        // by these seeds so many of so many means are above 0, the others are 0 or below
        withUpAndDown().draw(5, 7, false, 2).share(142);
        withUpAndDown().draw(1, 3, false, 2).share(333);
        withUpAndDown().draw(2, 3, false, 2).share(666);
        withUpAndDown().draw(38, 6, false, 2).share(666);
        withUpAndDown().draw(0, 3, false, 2).share(0);
        withUpAndDown().draw(20, 3, false, 2).share(1000);
        edges.fresh().row(0, 90, 0, 1).row(0, 80, 0, 2).row(0, 70, 0, 3).row(0, 0, 1, 4)
                .draw(14, 60, false, 4).share(983);
        // 0 is not above 0
        withUpAndDown().draw(10, 3, false, 2).drawn(0, 0, 0).drawn(2, 0, 0).share(0);
        edges.fresh().row(0, 5, 5, 1).draw(1, 60, false, 1).share(0);
        edges.fresh().row(0, 1, 0, 1).draw(1, 60, false, 1).share(1000).draw(1, 1, false, 1).share(1000);
        edges.fresh().row(0, 0, 1, 1).draw(1, 60, false, 1).share(0);
    }

    private void shareThrows() {
        edges.sentence(13, "ArithmeticException: nothing was drawn.");
        edges.refused(State.EMPTY, x -> x.shareThrows().shareThrows());
        edges.fresh().row(0, 1, 0, 1).shareThrows().draw(1, 61, false, OUTSIDE).shareThrows()
                .draw(1, 1, false, 1).share(1000).drop(0).share(1000).clear(0).shareThrows();
    }
}
