/** The sentences of promises 5 (row), 6 (drop), 7 (turned), 8 (wins) and 9 (even), and of their terms. */
final class RowsEdges {
    private static final int OUTSIDE = BoundDraws.OUTSIDE;
    private static final int FULL = BoundDraws.FULL;
    private static final int NONE = BoundDraws.NONE;

    private final Edges edges;

    private RowsEdges(Edges edges) {
        this.edges = edges;
    }

    static void run(Edges edges) {
        RowsEdges it = new RowsEdges(edges);
        it.rowCounts();
        it.rowOutside();
        it.differences();
        it.rowFull();
        it.dropCounts();
        it.dropNone();
        it.turnedSigns();
        it.turnedEitherWay();
        it.turnedAtLeast();
        it.sumOfAll();
        it.turnedAsFar();
        it.turnedGroups();
        it.turnedOutside();
        it.winsByMark();
        it.winsOutside();
        it.evenTwiceTheOdds();
        it.evenAsOfTries();
        it.evenInLowestTerms();
        it.evenOutside();
    }

    /** All in different groups, as long as there are some. */
    private Subject withDifferences(int... differences) {
        Subject x = edges.fresh();
        for (int i = 0; i < differences.length; i++) {
            x.row(i % 8, Math.max(differences[i], 0), Math.max(-differences[i], 0), i + 1);
        }
        return x;
    }

    private static int[] same(int many, int difference) {
        int[] all = new int[many];
        java.util.Arrays.fill(all, difference);
        return all;
    }

    private void rowCounts() {
        edges.sentence(5, "A row more: how many there are.");
        Subject x = edges.fresh();
        for (int i = 1; i <= 30; i++) {
            x.row(0, 1, 1, i).count(0, i);
        }
    }

    private void rowOutside() {
        edges.sentence(5, "ROWS (30 at most) are of a GROUP 0 to 7");
        edges.refusedEverywhere(x -> {
            x.row(-1, 1, 1, OUTSIDE).row(8, 1, 1, OUTSIDE);
            for (int far : Edges.FAR) {
                x.row(far, 1, 1, OUTSIDE);
            }
        });
        edges.fresh().row(0, 1, 1, 1).row(7, 1, 1, 2).count(1, 2);

        edges.sentence(5, "OUTSIDE: group; x, y: 0 to 100");
        edges.refusedEverywhere(x -> {
            x.row(0, -1, 0, OUTSIDE).row(0, 101, 0, OUTSIDE).row(0, 0, -1, OUTSIDE).row(0, 0, 101, OUTSIDE);
            x.row(7, -1, 100, OUTSIDE).row(7, 101, 100, OUTSIDE).row(7, 100, -1, OUTSIDE).row(7, 100, 101, OUTSIDE);
            x.row(0, -1, -1, OUTSIDE).row(0, 101, 101, OUTSIDE);
            for (int far : Edges.FAR) {
                x.row(0, far, 0, OUTSIDE).row(0, 0, far, OUTSIDE).row(far, far, far, OUTSIDE);
            }
        });
        edges.fresh().row(0, 0, 0, 1).row(0, 100, 0, 2).row(0, 0, 100, 3).row(0, 100, 100, 4)
                .wins(100, 0, 1).wins(100, 1, 1);
    }

    private void differences() {
        edges.sentence(5, "and have two numbers x and y; its DIFFERENCE is x less y.");
        int[][] rows = {{5, 3, 2}, {3, 5, -2}, {100, 0, 100}, {0, 100, -100}, {0, 0, 0}, {100, 100, 0}, {1, 0, 1}};
        for (int[] row : rows) {
            // the mean of the one row is its difference, and so is S
            edges.fresh().row(4, row[0], row[1], 1).draw(1, 1, false, 1).drawn(0, 0, row[2]).drawn(0, 1, 1)
                    .turned(false, 0, row[2] == 0 ? 0 : 1).turned(false, 1, row[2] < 0 ? 2 : 1);
        }
    }

    private void rowFull() {
        edges.sentence(5, "0 to 100; FULL.");
        edges.refused(State.FULL, x -> x.row(0, 0, 0, FULL).row(7, 100, 100, FULL).row(3, 50, 1, FULL));
        edges.in(State.FULL).row(0, 1, 1, FULL).count(0, 30).drop(29).row(0, 1, 1, 30).row(0, 1, 1, FULL);

        edges.sentence(5, "of several the first one that a call names: OUTSIDE -1 (a number is not as told),"
                + " FULL -2 (no room)");
        edges.refused(State.FULL, x -> x.row(8, 0, 0, OUTSIDE).row(-1, 0, 0, OUTSIDE).row(0, 101, 0, OUTSIDE)
                .row(0, -1, 0, OUTSIDE).row(0, 0, 101, OUTSIDE).row(0, 0, -1, OUTSIDE));
    }

    private void dropCounts() {
        edges.sentence(6, "The last row goes: how many are left.");
        Subject x = edges.in(State.FULL);
        for (int left = 29; left >= 0; left--) {
            x.drop(left).count(0, left);
        }
        // of which row it was, the marks tell: 10, 20 and 30 are reached by one more each
        edges.fresh().row(0, 10, 0, 1).row(1, 20, 0, 2).row(2, 30, 0, 3)
                .drop(2).wins(30, 0, 0).wins(20, 0, 1).wins(10, 0, 2).count(1, 2)
                .drop(1).wins(20, 0, 0).wins(10, 0, 1).count(1, 1)
                .row(2, 0, 40, 2).wins(40, 1, 1).wins(20, 0, 0).drop(1).wins(40, 1, 0).wins(10, 0, 1);
    }

    private void dropNone() {
        edges.sentence(6, "NONE: there is none.");
        edges.refused(State.EMPTY, x -> x.drop(NONE).drop(NONE));
        edges.fresh().drop(NONE).row(0, 1, 1, 1).drop(0).drop(NONE).drop(NONE).count(0, 0).row(0, 1, 1, 1);
        edges.in(State.SOME).clear(3).drop(NONE);
    }

    private void turnedSigns() {
        edges.sentence(7, "Of ways in which UNITS are TURNED: 0 how many signs there are (m)");
        edges.fresh().turned(false, 0, 0).turned(true, 0, 0);
        withDifferences(same(30, 1)).turned(false, 0, 30).turned(true, 0, 8);
        withDifferences(same(30, -100)).turned(false, 0, 30).turned(true, 0, 8);

        edges.sentence(7, "each UNIT of a DIFFERENCE that is not 0");
        withDifferences(0).turned(false, 0, 0).turned(true, 0, 0);
        withDifferences(0, 1, 0, -1, 0).turned(false, 0, 2).turned(true, 0, 2);
        edges.fresh().row(0, 100, 100, 1).row(1, 100, 99, 2).row(2, 99, 100, 3).turned(false, 0, 2);

        edges.sentence(7, "of m such UNITS there are 2 to the m ways");
        edges.fresh().turned(false, 1, 1).turned(true, 1, 1);
        withDifferences(0, 0).turned(false, 1, 1).turned(false, 2, 1);
        withDifferences(-1).turned(false, 1, 2);
        withDifferences(same(30, -1)).turned(false, 1, 1L << 30).turned(true, 1, 1 << 8);
        withDifferences(same(30, 0)).turned(false, 1, 1).turned(true, 1, 1);
    }

    private void turnedEitherWay() {
        edges.sentence(7, "TURNED: each UNIT of a DIFFERENCE that is not 0 has it as it is, or with the other sign");
        // of 1, 2 and 4 with all signs the sums are the odd numbers from 7 down to -7, each once
        for (int way = 0; way < 8; way++) {
            int one = (way & 1) == 0 ? 1 : -1;
            int two = (way & 2) == 0 ? 2 : -2;
            int four = (way & 4) == 0 ? 4 : -4;
            int s = one + two + four;
            withDifferences(one, two, 0, four).turned(false, 0, 3).turned(false, 1, (7 - s) / 2 + 1)
                    .turned(false, 2, 2 * ((7 - Math.abs(s)) / 2 + 1)).turned(true, 1, (7 - s) / 2 + 1);
        }
    }

    private void turnedAtLeast() {
        edges.sentence(7, "1 in how many ways the sum is S at least");
        edges.fresh().turned(false, 1, 1).turned(true, 1, 1);
        // S is the greatest of sums, the least, and 0, which both of 4 and -4, -4 and 4 have
        withDifferences(1, 2, 3).turned(false, 1, 1);
        withDifferences(-1, -2, -3).turned(false, 1, 8);
        withDifferences(4, -4).turned(false, 1, 3);
        withDifferences(1, -1, 2, -2).turned(false, 1, 10);
        // sums 6, 4, 2, 0, 0, -2, -4, -6: S is 2, is -2
        withDifferences(1, -2, 3).turned(false, 1, 3);
        withDifferences(-1, 2, -3).turned(false, 1, 6);
        // each of all sums by itself just once: S stands at its place among them
        withDifferences(1, 2, 4, 8, 16, 32, -64).turned(false, 1, 65);
        withDifferences(-1, -2, -4, -8, -16, -32, 64).turned(false, 1, 64);
        withDifferences(1, 2, 4, 8, 16, -32, 64).turned(false, 1, 33);
        withDifferences(-1, -2, -4, -8, -16, 32, -64).turned(false, 1, 96);
        withDifferences(same(30, 100)).turned(false, 1, 1).turned(true, 1, 1);
        int[] half = same(30, 100);
        java.util.Arrays.fill(half, 0, 15, -100);
        withDifferences(half).turned(false, 1, (1L << 29) + 155117520 / 2);
        half[15] = -100;
        // 16 of 30 are below: all ways with 16 or fewer minus signs
        withDifferences(half).turned(false, 1, (1L << 29) + 155117520 / 2 + 145422675);
        half[15] = 100;
        half[14] = 100;
        withDifferences(half).turned(false, 1, (1L << 29) - 155117520 / 2);
    }

    private void sumOfAll() {
        edges.sentence(7, "S is the sum of all DIFFERENCES.");
        // rows and GROUPS have the same S, though not the same signs: of 100, -99 and 1 in all 2, or of 1 and 1
        edges.fresh().row(0, 100, 0, 1).row(0, 0, 99, 2).row(1, 1, 0, 3).turned(false, 1, 3).turned(false, 2, 6)
                .turned(true, 1, 1).turned(true, 2, 2);
        edges.fresh().row(0, 0, 100, 1).row(0, 99, 0, 2).row(1, 0, 1, 3).turned(false, 1, 6).turned(false, 2, 6)
                .turned(true, 1, 4).turned(true, 2, 2);
    }

    private void turnedAsFar() {
        edges.sentence(7, "2 in how many it is as far from 0 as S at least.");
        edges.fresh().turned(false, 2, 1).turned(true, 2, 1);
        withDifferences(1, 2, 3).turned(false, 2, 2);
        withDifferences(-1, -2, -3).turned(false, 2, 2);
        withDifferences(4, -4).turned(false, 2, 4);
        withDifferences(1, -2, 3).turned(false, 2, 6);
        withDifferences(-1, 2, -3).turned(false, 2, 6);
        withDifferences(1, 2, 4, 8, 16, 32, -64).turned(false, 2, 128);
        withDifferences(1, 2, 4, 8, 16, -32, 64).turned(false, 2, 66);
        withDifferences(-1, -2, -4, -8, -16, 32, -64).turned(false, 2, 66);
        withDifferences(1, 2, 4, 8, 16, 32, 64).turned(false, 2, 2);
        withDifferences(-1, 2, 4, 8, 16, 32, 64).turned(false, 2, 4);
        withDifferences(same(30, 100)).turned(false, 2, 2).turned(true, 2, 2);
        withDifferences(same(30, -100)).turned(false, 2, 2);
        int[] half = same(30, 100);
        java.util.Arrays.fill(half, 0, 15, -100);
        withDifferences(half).turned(false, 2, 1L << 30);
        half[15] = -100;
        withDifferences(half).turned(false, 2, (1L << 30) - 155117520);
    }

    private void turnedGroups() {
        edges.sentence(7, "UNITS are the rows, or the GROUPS that have rows (by their numbers;"
                + " a DIFFERENCE is the sum of those of its rows)");
        // in group 3 the differences make up 0, in group 5 there is a row no longer
        edges.fresh().row(3, 5, 0, 1).row(3, 0, 5, 2).row(0, 1, 0, 3).row(7, 0, 4, 4).row(5, 9, 0, 5).drop(4)
                .turned(true, 0, 2).turned(true, 1, 3).turned(true, 2, 4).turned(false, 0, 4);
        // one group with all rows: 3000 the one way, -3000 the other
        Subject x = edges.fresh();
        for (int i = 1; i <= 30; i++) {
            x.row(7, 100, 0, i);
        }
        x.turned(true, 0, 1).turned(true, 1, 1).turned(true, 2, 2);
        Subject y = edges.fresh();
        for (int i = 1; i <= 30; i++) {
            y.row(0, 0, 100, i);
        }
        y.turned(true, 0, 1).turned(true, 1, 2).turned(true, 2, 2);
    }

    private void turnedOutside() {
        edges.sentence(7, "as S at least. OUTSIDE.");
        edges.refusedEverywhere(x -> {
            x.turned(false, -1, OUTSIDE).turned(true, -1, OUTSIDE).turned(false, 3, OUTSIDE).turned(true, 3, OUTSIDE);
            for (int far : Edges.FAR) {
                x.turned(false, far, OUTSIDE).turned(true, far, OUTSIDE);
            }
        });
    }

    private void winsByMark() {
        edges.sentence(8, "By a MARK t a row is a WIN, if x is t at least and y is not; a LOSS, if y is and x is not.");
        edges.fresh().row(0, 50, 49, 1)
                .wins(49, 0, 0).wins(50, 0, 1).wins(51, 0, 0).wins(49, 1, 0).wins(50, 1, 0).wins(51, 1, 0);
        edges.fresh().row(0, 49, 50, 1)
                .wins(49, 1, 0).wins(50, 1, 1).wins(51, 1, 0).wins(49, 0, 0).wins(50, 0, 0).wins(51, 0, 0);
        edges.fresh().row(0, 50, 50, 1).wins(49, 0, 0).wins(50, 0, 0).wins(50, 1, 0).wins(51, 0, 0).wins(51, 1, 0);

        edges.sentence(8, "By a MARK t: 0 WINS, 1 LOSSES.");
        edges.fresh().wins(0, 0, 0).wins(0, 1, 0).wins(50, 0, 0).wins(101, 1, 0);
        // 0 is reached by all, 101 by none
        Subject x = edges.fresh().row(0, 100, 0, 1).row(0, 0, 100, 2).row(0, 100, 0, 3);
        x.wins(0, 0, 0).wins(0, 1, 0).wins(1, 0, 2).wins(1, 1, 1);
        x.wins(100, 0, 2).wins(100, 1, 1).wins(101, 0, 0).wins(101, 1, 0);
        withDifferences(same(30, 7)).wins(7, 0, 30).wins(7, 1, 0).wins(8, 0, 0);
        withDifferences(same(30, -7)).wins(7, 0, 0).wins(7, 1, 30).wins(8, 1, 0);
    }

    private void winsOutside() {
        edges.sentence(8, "OUTSIDE: t (0 to 101), what.");
        edges.refusedEverywhere(x -> {
            for (int what = 0; what <= 1; what++) {
                x.wins(-1, what, OUTSIDE).wins(102, what, OUTSIDE);
                x.wins(Integer.MIN_VALUE, what, OUTSIDE).wins(Integer.MAX_VALUE, what, OUTSIDE);
            }
            x.wins(50, -1, OUTSIDE).wins(50, 2, OUTSIDE).wins(0, -1, OUTSIDE).wins(101, 2, OUTSIDE);
            x.wins(50, Integer.MIN_VALUE, OUTSIDE).wins(50, Integer.MAX_VALUE, OUTSIDE).wins(-1, 2, OUTSIDE);
        });
        edges.fresh().wins(0, 0, 0).wins(101, 0, 0).wins(0, 1, 0).wins(101, 1, 0);
    }

    private void evenIs(Subject x, int t, long upper, long lower) {
        x.even(t, 0, upper).even(t, 1, lower);
    }

    private void evenTwiceTheOdds() {
        edges.sentence(9, "THE ODDS of WINS and LOSSES.");
        evenIs(edges.fresh(), 0, 1, 1);
        evenIs(edges.fresh(), 101, 1, 1);
        evenIs(withDifferences(same(30, 9)), 9, 1, 1 << 29);
        evenIs(withDifferences(same(30, -9)), 9, 1, 1 << 29);
        evenIs(withDifferences(same(30, 9)), 10, 1, 1);
        evenIs(withDifferences(same(30, 9)), 0, 1, 1);

        edges.sentence(9, "the lesser of 1 and twice the odds");
        // twice is above 1 with as many of both, just 1 with one more, below it with two more
        evenIs(withDifferences(9, -9), 9, 1, 1);
        evenIs(withDifferences(9), 9, 1, 1);
        evenIs(withDifferences(-9), 9, 1, 1);
        evenIs(withDifferences(9, 9, -9), 9, 1, 1);
        evenIs(withDifferences(9, 9), 9, 1, 2);
        evenIs(withDifferences(-9, -9), 9, 1, 2);
        evenIs(withDifferences(9, 9, 9, -9), 9, 5, 8);

        edges.sentence(9, "of the lesser one or fewer hits");
        evenIs(withDifferences(9, 9, 9, 9, -9), 9, 3, 8);
        evenIs(withDifferences(-9, -9, -9, -9, 9), 9, 3, 8);
        int[] all = same(30, 9);
        all[7] = -9;
        evenIs(withDifferences(all), 9, 31, 1 << 29);
        java.util.Arrays.fill(all, 0, 14, -9);
        // all less the middle number of sets, which is 155117520, is twice that of 14 or fewer
        evenIs(withDifferences(all), 9, ((1 << 30) - 155117520) / 16, (1 << 30) / 16);
        all[14] = -9;
        evenIs(withDifferences(all), 9, 1, 1);
    }

    private void evenAsOfTries() {
        edges.sentence(9, "With w WINS and l LOSSES THE ODDS of these are the lesser of 1 and twice the odds, of w and"
                + " l tries by 1 / 2, of the lesser one or fewer hits.");
        for (int w = 0; w <= 15; w++) {
            for (int l = 0; l <= 15; l++) {
                int[] all = same(w + l, 9);
                java.util.Arrays.fill(all, 0, l, -9);
                long ways = 1L << w + l;
                long twice = Math.min(ways, 2 * Model.aboveOf(w + l, Math.min(w, l), 1, 2, 1).longValue());
                // ways are a power of 2, so that what twice has in common with them is one too
                long common = Math.min(ways, Long.lowestOneBit(twice));
                Subject x = withDifferences(all).wins(9, 0, w).wins(9, 1, l);
                evenIs(x, 9, twice / common, ways / common);
            }
        }
    }

    private void evenInLowestTerms() {
        edges.sentence(9, "Fractions are in lowest terms, told by side: 0 the upper number, 1 the lower one"
                + " (0 is 0 / 1).");
        // 2 / 4, 2 / 8, 12 / 32 and 16 / 128
        evenIs(withDifferences(9, 9), 9, 1, 2);
        evenIs(withDifferences(9, 9, 9), 9, 1, 4);
        evenIs(withDifferences(9, 9, 9, 9, -9), 9, 3, 8);
        evenIs(withDifferences(9, 9, 9, 9, 9, 9, -9), 9, 1, 8);
    }

    private void evenOutside() {
        edges.sentence(9, "OUTSIDE: t, side.");
        edges.refusedEverywhere(x -> {
            for (int side = 0; side <= 1; side++) {
                x.even(-1, side, OUTSIDE).even(102, side, OUTSIDE);
                x.even(Integer.MIN_VALUE, side, OUTSIDE).even(Integer.MAX_VALUE, side, OUTSIDE);
            }
            x.even(50, -1, OUTSIDE).even(50, 2, OUTSIDE).even(0, -1, OUTSIDE).even(101, 2, OUTSIDE);
            x.even(50, Integer.MIN_VALUE, OUTSIDE).even(50, Integer.MAX_VALUE, OUTSIDE).even(-1, 2, OUTSIDE);
        });
        edges.fresh().even(0, 0, 1).even(101, 0, 1).even(0, 1, 1).even(101, 1, 1);
    }
}
