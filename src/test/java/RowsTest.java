/** Promises 5 (row), 6 (drop), 7 (turned), 8 (wins) and 9 (even). */
final class RowsTest {
    private static final Check CHECK = new Check("RowsTest");
    private static BoundDraws x;

    public static void main(String[] args) {
        rowsCountUpToThirty();
        rowsOutside();
        dropTakesTheLast();
        turnedRowsByHand();
        turnedGroupsByHand();
        turnedWhereTheSumIsBelowOrAtZero();
        turnedAtItsWidest();
        turnedByTryingEachWay();
        winsByMark();
        evenByHand();
        CHECK.end();
    }

    private static void row(int group, int left, int right, long want) {
        CHECK.due("row(" + group + ", " + left + ", " + right + ")", want, () -> x.row(group, left, right));
    }

    private static void drop(long want) {
        CHECK.due("drop()", want, () -> x.drop());
    }

    private static void turned(boolean groups, int what, long want) {
        CHECK.due("turned(" + groups + ", " + what + ")", want, () -> x.turned(groups, what));
    }

    private static void wins(int t, int what, long want) {
        CHECK.due("wins(" + t + ", " + what + ")", want, () -> x.wins(t, what));
    }

    private static void even(int t, long upper, long lower) {
        CHECK.due("even(" + t + ", 0)", upper, () -> x.even(t, 0));
        CHECK.due("even(" + t + ", 1)", lower, () -> x.even(t, 1));
    }

    private static void newWithDifferences(int... differences) {
        x = new BoundDraws();
        for (int i = 0; i < differences.length; i++) {
            row(i % 8, Math.max(differences[i], 0), Math.max(-differences[i], 0), i + 1);
        }
    }

    private static void rowsCountUpToThirty() {
        x = new BoundDraws();
        for (int i = 1; i <= 30; i++) {
            row(i % 8, i % 2 * 100, i % 3 * 50, i);
        }
        row(0, 1, 1, BoundDraws.FULL);
        row(8, 1, 1, BoundDraws.OUTSIDE);
        CHECK.due("count(0)", 30, () -> x.count(0));
        drop(29);
        row(7, 100, 100, 30);
    }

    private static void rowsOutside() {
        x = new BoundDraws();
        int[][] wrong = {{-1, 1, 1}, {8, 1, 1}, {0, -1, 1}, {0, 101, 1}, {0, 1, -1}, {0, 1, 101},
            {Integer.MIN_VALUE, 0, 0}, {Integer.MAX_VALUE, 0, 0}};
        for (int[] w : wrong) {
            row(w[0], w[1], w[2], BoundDraws.OUTSIDE);
        }
        CHECK.due("count(0)", 0, () -> x.count(0));
        row(0, 0, 0, 1);
        row(7, 100, 100, 2);
    }

    private static void dropTakesTheLast() {
        newWithDifferences(1, 2);
        row(5, 60, 10, 3);
        wins(50, 0, 1);
        drop(2);
        wins(50, 0, 0);
        wins(2, 0, 1);
        drop(1);
        wins(2, 0, 0);
        wins(1, 0, 1);
        drop(0);
        drop(BoundDraws.NONE);
        drop(BoundDraws.NONE);
        row(0, 1, 1, 1);
    }

    private static void turnedRowsByHand() {
        x = new BoundDraws();
        turned(false, 0, 0);
        turned(false, 1, 1);
        turned(false, 2, 1);
        turned(true, 0, 0);
        turned(false, -1, BoundDraws.OUTSIDE);
        turned(true, 3, BoundDraws.OUTSIDE);
        newWithDifferences(0, 0);
        turned(false, 0, 0);
        turned(false, 1, 1);
        turned(false, 2, 1);
        newWithDifferences(1, 2, 0, 3);
        turned(false, 0, 3);
        turned(false, 1, 1);
        turned(false, 2, 2);
        newWithDifferences(3, -1, 2);
        turned(false, 1, 2);
        turned(false, 2, 4);
    }

    private static void turnedGroupsByHand() {
        x = new BoundDraws();
        row(3, 5, 0, 1);
        row(1, 0, 7, 2);
        row(3, 0, 5, 3);
        row(1, 9, 0, 4);
        row(7, 0, 1, 5);
        turned(true, 0, 2);
        turned(true, 1, 2);
        turned(true, 2, 4);
        row(7, 0, 2, 6);
        turned(true, 0, 2);
        turned(true, 1, 3);
        turned(true, 2, 4);
        turned(false, 0, 6);
    }

    private static void turnedWhereTheSumIsBelowOrAtZero() {
        newWithDifferences(-1, -2, -3);
        turned(false, 1, 8);
        turned(false, 2, 2);
        newWithDifferences(1, -3);
        turned(false, 1, 3);
        turned(false, 2, 4);
        newWithDifferences(4, -4);
        turned(false, 1, 3);
        turned(false, 2, 4);
        newWithDifferences(-5);
        turned(false, 1, 2);
        turned(false, 2, 2);
    }

    private static void turnedAtItsWidest() {
        int[] all = new int[30];
        java.util.Arrays.fill(all, 100);
        newWithDifferences(all);
        turned(false, 0, 30);
        turned(false, 1, 1);
        turned(false, 2, 2);
        turned(true, 0, 8);
        turned(true, 1, 1);
        java.util.Arrays.fill(all, -100);
        newWithDifferences(all);
        turned(false, 1, 1L << 30);
        turned(false, 2, 2);
        for (int i = 0; i < 15; i++) {
            all[i] = 100;
        }
        newWithDifferences(all);
        turned(false, 1, (1L << 29) + 155117520 / 2);
        turned(false, 2, 1L << 30);
        all[15] = 0;
        newWithDifferences(all);
        turned(false, 0, 29);
        turned(false, 1, 1L << 28);
        turned(false, 2, 1L << 29);
    }

    /** No table, no mirror: each of the ways by itself. */
    private static void turnedByTryingEachWay() {
        java.util.Random random = new java.util.Random(11);
        for (int run = 0; run < 60; run++) {
            int[] differences = new int[1 + random.nextInt(12)];
            int s = 0;
            for (int i = 0; i < differences.length; i++) {
                int wide = run % 3 == 0 ? 3 : 100;
                differences[i] = random.nextInt(2 * wide + 1) - wide;
                s += differences[i];
            }
            newWithDifferences(differences);
            int signs = 0;
            for (int difference : differences) {
                signs += difference != 0 ? 1 : 0;
            }
            long atLeast = 0;
            long asFar = 0;
            for (int way = 0; way < 1 << differences.length; way++) {
                int sum = 0;
                for (int i = 0; i < differences.length; i++) {
                    sum += (way >> i & 1) == 0 ? differences[i] : -differences[i];
                }
                atLeast += sum >= s ? 1 : 0;
                asFar += Math.abs(sum) >= Math.abs(s) ? 1 : 0;
            }
            int twice = differences.length - signs;
            turned(false, 0, signs);
            turned(false, 1, atLeast >> twice);
            turned(false, 2, asFar >> twice);
        }
    }

    private static void winsByMark() {
        x = new BoundDraws();
        wins(0, 0, 0);
        row(0, 50, 49, 1);
        row(0, 0, 100, 2);
        row(0, 100, 0, 3);
        row(0, 100, 100, 4);
        row(0, 30, 70, 5);
        wins(50, 0, 2);
        wins(50, 1, 2);
        wins(51, 0, 1);
        wins(49, 0, 1);
        wins(100, 0, 1);
        wins(100, 1, 1);
        wins(30, 1, 1);
        wins(31, 1, 2);
        wins(70, 1, 2);
        wins(71, 1, 1);
        wins(0, 0, 0);
        wins(0, 1, 0);
        wins(101, 0, 0);
        wins(101, 1, 0);
        wins(-1, 0, BoundDraws.OUTSIDE);
        wins(102, 0, BoundDraws.OUTSIDE);
        wins(50, -1, BoundDraws.OUTSIDE);
        wins(50, 2, BoundDraws.OUTSIDE);
    }

    private static void evenByHand() {
        newWithDifferences();
        even(0, 1, 1);
        newWithDifferences(9);
        even(5, 1, 1);
        newWithDifferences(9, 9);
        even(5, 1, 2);
        even(10, 1, 1);
        newWithDifferences(9, 9, 9, 9, -9);
        even(5, 3, 8);
        newWithDifferences(-9, -9, -9, -9, 9);
        even(5, 3, 8);
        newWithDifferences(9, 9, -9, -9);
        even(5, 1, 1);
        int[] all = new int[30];
        java.util.Arrays.fill(all, 9);
        newWithDifferences(all);
        even(5, 1, 1L << 29);
        all[7] = -9;
        newWithDifferences(all);
        even(5, 31, 1L << 29);
        even(9, 31, 1L << 29);
        even(10, 1, 1);
        even(-1, BoundDraws.OUTSIDE, BoundDraws.OUTSIDE);
        even(102, BoundDraws.OUTSIDE, BoundDraws.OUTSIDE);
        CHECK.due("even(5, 2)", BoundDraws.OUTSIDE, () -> x.even(5, 2));
        CHECK.due("even(5, -1)", BoundDraws.OUTSIDE, () -> x.even(5, -1));
    }
}
