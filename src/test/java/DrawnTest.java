/** Promises 10 (draw), 11 (drawn), 12 (percentile) and 13 (share). */
final class DrawnTest {
    private static final Check CHECK = new Check("DrawnTest");
    private static BoundDraws x;

    public static void main(String[] args) {
        nothingDrawn();
        drawRefuses();
        drawOfOneRow();
        drawByHand();
        drawOfGroupsByHand();
        drawTakesThePlaceOfTheLast();
        meansStayAsTheyWereDrawn();
        meansStandBySize();
        percentileAtItsEdges();
        shareCuts();
        CHECK.end();
    }

    private static void row(int group, int left, int right) {
        CHECK.due("row", x.count(0) + 1, () -> x.row(group, left, right));
    }

    private static void draw(long seed, int times, boolean groups, long want) {
        CHECK.due("draw(" + seed + ", " + times + ", " + groups + ")", want, () -> x.draw(seed, times, groups));
    }

    private static void drawn(int i, long upper, long lower) {
        CHECK.due("drawn(" + i + ", 0)", upper, () -> x.drawn(i, 0));
        CHECK.due("drawn(" + i + ", 1)", lower, () -> x.drawn(i, 1));
    }

    private static void drawnThrows(int i, int side) {
        CHECK.dueThrow("drawn(" + i + ", " + side + ")", IndexOutOfBoundsException.class, () -> x.drawn(i, side));
    }

    private static void percentile(int up, int down, int side, long want) {
        CHECK.due("percentile(" + up + ", " + down + ", " + side + ")", want, () -> x.percentile(up, down, side));
    }

    private static void share(long want) {
        CHECK.due("share()", want, () -> x.share());
    }

    private static void nothingDrawn() {
        x = new BoundDraws();
        row(0, 1, 0);
        drawnThrows(0, 0);
        drawnThrows(-1, 1);
        CHECK.due("drawn(0, 2)", BoundDraws.OUTSIDE, () -> x.drawn(0, 2));
        CHECK.due("drawn(99, -1)", BoundDraws.OUTSIDE, () -> x.drawn(99, -1));
        percentile(1, 2, 0, BoundDraws.NONE);
        percentile(1, 0, 0, BoundDraws.OUTSIDE);
        percentile(1, 2, 2, BoundDraws.OUTSIDE);
        CHECK.dueThrow("share()", ArithmeticException.class, () -> x.share());
    }

    private static void drawRefuses() {
        x = new BoundDraws();
        draw(1, 1, false, BoundDraws.NONE);
        draw(1, 1, true, BoundDraws.NONE);
        draw(1, 0, false, BoundDraws.OUTSIDE);
        draw(1, 61, false, BoundDraws.OUTSIDE);
        row(0, 3, 1);
        draw(1, 0, false, BoundDraws.OUTSIDE);
        draw(1, -1, true, BoundDraws.OUTSIDE);
        draw(1, 61, true, BoundDraws.OUTSIDE);
        draw(1, Integer.MAX_VALUE, true, BoundDraws.OUTSIDE);
        CHECK.due("count(2)", 0, () -> x.count(2));
        draw(1, 60, true, 1);
        drawnThrows(60, 0);
        drawn(59, 2, 1);
        draw(1, 61, true, BoundDraws.OUTSIDE);
        x.drop();
        draw(1, 5, true, BoundDraws.NONE);
        CHECK.due("count(2)", 60, () -> x.count(2));
    }

    private static void drawOfOneRow() {
        x = new BoundDraws();
        row(4, 30, 90);
        draw(Long.MIN_VALUE, 3, false, 1);
        drawn(0, -60, 1);
        drawn(2, -60, 1);
        drawnThrows(3, 0);
        drawnThrows(-1, 0);
        drawnThrows(Integer.MAX_VALUE, 1);
        CHECK.due("drawn(5, 2)", BoundDraws.OUTSIDE, () -> x.drawn(5, 2));
        share(0);
        x = new BoundDraws();
        row(4, 90, 90);
        draw(5, 1, false, 1);
        drawn(0, 0, 1);
        share(0);
    }

    /** What the document says of a DRAW, step by step. */
    private static long[] draws(long seed, int many, int below) {
        long[] draws = new long[many];
        java.math.BigInteger all = java.math.BigInteger.TWO.pow(64);
        java.math.BigInteger at = java.math.BigInteger.valueOf(seed).mod(all);
        for (int i = 0; i < many; i++) {
            at = at.multiply(new java.math.BigInteger("6364136223846793005"))
                    .add(new java.math.BigInteger("1442695040888963407")).mod(all);
            draws[i] = at.shiftRight(33).mod(java.math.BigInteger.valueOf(below)).longValue();
        }
        return draws;
    }

    private static void drawByHand() {
        for (long seed : new long[] {0, 1, -1, 12345678901L, Long.MIN_VALUE, Long.MAX_VALUE}) {
            x = new BoundDraws();
            int[] differences = {7, -20, 100};
            row(2, 10, 3);
            row(1, 10, 30);
            row(2, 100, 0);
            draw(seed, 1, false, 3);
            long sum = 0;
            for (long which : draws(seed, 3, 3)) {
                sum += differences[(int) which];
            }
            tellsMean(sum, 3);
        }
    }

    private static void drawOfGroupsByHand() {
        for (long seed = -20; seed < 20; seed++) {
            x = new BoundDraws();
            row(6, 10, 3);
            row(1, 10, 30);
            row(6, 50, 0);
            row(3, 0, 0);
            row(6, 0, 2);
            int[] differences = {-20, 0, 55};
            int[] sizes = {1, 1, 3};
            draw(seed, 1, true, 3);
            long sum = 0;
            long rows = 0;
            for (long which : draws(seed, 3, 3)) {
                sum += differences[(int) which];
                rows += sizes[(int) which];
            }
            tellsMean(sum, rows);
        }
    }

    private static void tellsMean(long sum, long rows) {
        long divisor = java.math.BigInteger.valueOf(sum).gcd(java.math.BigInteger.valueOf(rows)).longValue();
        drawn(0, sum / divisor, rows / divisor);
        share(sum > 0 ? 1000 : 0);
    }

    private static void drawTakesThePlaceOfTheLast() {
        x = new BoundDraws();
        row(0, 1, 0);
        draw(1, 60, false, 1);
        draw(1, 2, false, 1);
        CHECK.due("count(2)", 2, () -> x.count(2));
        drawnThrows(2, 0);
        draw(1, 3, true, 1);
        CHECK.due("count(2)", 3, () -> x.count(2));
    }

    private static void meansStayAsTheyWereDrawn() {
        x = new BoundDraws();
        row(0, 9, 0);
        draw(3, 2, false, 1);
        row(1, 0, 50);
        drawn(0, 9, 1);
        x.drop();
        x.drop();
        drawn(1, 9, 1);
        share(1000);
        percentile(1, 1, 0, 9);
    }

    private static void meansStandBySize() {
        x = new BoundDraws();
        for (int i = 0; i < 30; i++) {
            row(i * i % 8, i * 37 % 101, i * 53 % 97);
        }
        for (int seed = 0; seed < 10; seed++) {
            draw(seed, 60, seed % 2 == 0, seed % 2 == 0 ? x.count(1) : 30);
            for (int i = 0; i + 1 < 60; i++) {
                int at = i;
                long left = x.drawn(i, 0) * x.drawn(i + 1, 1);
                long right = x.drawn(i + 1, 0) * x.drawn(i, 1);
                CHECK.due("mean " + at + " not above the next", 1, () -> left <= right ? 1 : 0);
                CHECK.due("mean " + at + " in lowest terms", 1, () -> java.math.BigInteger.valueOf(x.drawn(at, 0))
                        .gcd(java.math.BigInteger.valueOf(x.drawn(at, 1))).longValue());
            }
        }
    }

    private static void percentileAtItsEdges() {
        x = new BoundDraws();
        row(0, 1, 0);
        row(0, 0, 40);
        row(0, 100, 3);
        row(0, 17, 3);
        for (int m : new int[] {1, 2, 7, 10, 60}) {
            draw(99, m, false, 4);
            for (int side = 0; side <= 1; side++) {
                percentile(0, 1, side, x.drawn(0, side));
                percentile(0, 1000, side, x.drawn(0, side));
                percentile(1, 1, side, x.drawn(m - 1, side));
                percentile(1000, 1000, side, x.drawn(m - 1, side));
                percentile(1, 1000, side, x.drawn(0, side));
                percentile(1, 2, side, x.drawn((m + 1) / 2 - 1, side));
            }
        }
        draw(99, 10, false, 4);
        percentile(3, 10, 0, x.drawn(2, 0));
        percentile(301, 1000, 0, x.drawn(3, 0));
        percentile(300, 1000, 0, x.drawn(2, 0));
        percentile(299, 1000, 0, x.drawn(2, 0));
        percentile(999, 1000, 0, x.drawn(9, 0));
        int[][] wrong = {{0, 0, 0}, {1, 1001, 0}, {-1, 2, 0}, {3, 2, 0}, {1, 2, -1}, {1, 2, 2}, {-1, -1, 0}};
        for (int[] w : wrong) {
            percentile(w[0], w[1], w[2], BoundDraws.OUTSIDE);
        }
    }

    private static void shareCuts() {
        x = new BoundDraws();
        row(0, 1, 0);
        row(0, 0, 1);
        for (int seed = 0; seed < 12; seed++) {
            draw(seed, 7, false, 2);
            int many = 0;
            for (int i = 0; i < 7; i++) {
                many += x.drawn(i, 0) > 0 ? 1 : 0;
            }
            share(new int[] {0, 142, 285, 428, 571, 714, 857, 1000}[many]);
        }
    }
}
