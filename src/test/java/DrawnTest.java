import java.math.BigInteger;

/** Promises 10 to 13 (draw, drawn, percentile, share), for ordinary rows; their edges are EdgesTest's. */
final class DrawnTest {
    private static final Check CHECK = new Check("DrawnTest");
    private static final BigInteger ALL = BigInteger.TWO.pow(64);
    private static final BigInteger FACTOR = new BigInteger("6364136223846793005");
    private static final BigInteger STEP = new BigInteger("1442695040888963407");

    public static void main(String[] args) {
        drawOfRows();
        drawOfGroups();
        meansStayAsTheyWereDrawn();
        meansStandBySizeInLowestTerms();
        percentileOfFew();
        CHECK.end();
    }

    /** What the document says of a DRAW, step by step. */
    private static int[] draws(long seed, int many, int below) {
        int[] draws = new int[many];
        BigInteger x = BigInteger.valueOf(seed).mod(ALL);
        for (int i = 0; i < many; i++) {
            x = x.multiply(FACTOR).add(STEP).mod(ALL);
            draws[i] = x.shiftRight(33).mod(BigInteger.valueOf(below)).intValue();
        }
        return draws;
    }

    private static void drawOfRows() {
        int[] differences = {7, -20, 100};
        for (long seed : new long[] {0, 1, -1, 12345678901L, Long.MIN_VALUE, Long.MAX_VALUE}) {
            Subject x = new Subject(CHECK, "promise 10").row(2, 10, 3, 1).row(1, 10, 30, 2).row(2, 100, 0, 3)
                    .draw(seed, 1, false, 3);
            long sum = 0;
            for (int which : draws(seed, 3, 3)) {
                sum += differences[which];
            }
            tellsMean(x, sum, 3);
        }
    }

    private static void drawOfGroups() {
        int[] differences = {-20, 0, 55};
        int[] sizes = {1, 1, 3};
        for (long seed = -20; seed < 20; seed++) {
            Subject x = new Subject(CHECK, "promise 10").row(6, 10, 3, 1).row(1, 10, 30, 2).row(6, 50, 0, 3)
                    .row(3, 0, 0, 4).row(6, 0, 2, 5).draw(seed, 1, true, 3);
            long sum = 0;
            long rows = 0;
            for (int which : draws(seed, 3, 3)) {
                sum += differences[which];
                rows += sizes[which];
            }
            tellsMean(x, sum, rows);
        }
    }

    private static void tellsMean(Subject x, long sum, long rows) {
        long divisor = BigInteger.valueOf(sum).gcd(BigInteger.valueOf(rows)).longValue();
        x.drawn(0, 0, sum / divisor).drawn(0, 1, rows / divisor).share(sum > 0 ? 1000 : 0);
    }

    private static void meansStayAsTheyWereDrawn() {
        new Subject(CHECK, "promise 11").row(0, 9, 0, 1).draw(3, 2, false, 1).row(1, 0, 50, 2).drawn(0, 0, 9)
                .drop(1).drop(0).drawn(1, 0, 9).drawn(1, 1, 1).share(1000).percentile(1, 1, 0, 9);
    }

    private static void meansStandBySizeInLowestTerms() {
        for (int seed = 0; seed < 10; seed++) {
            boolean groups = seed % 2 == 0;
            Subject x = new Subject(CHECK, "promise 11");
            for (int i = 0; i < 30; i++) {
                x.row(i % 8, i * 37 % 101, i * 53 % 97, i + 1);
            }
            x.draw(seed, 60, groups, groups ? 8 : 30);
            BigInteger[] last = null;
            for (int i = 0; i < 60; i++) {
                int at = i;
                BigInteger upper = new BigInteger(x.look(of -> of.drawn(at, 0)));
                BigInteger lower = new BigInteger(x.look(of -> of.drawn(at, 1)));
                CHECK.compare("mean " + i + " has common divisors", "1", "" + upper.gcd(lower));
                boolean rises = last == null || last[0].multiply(lower).compareTo(upper.multiply(last[1])) <= 0;
                CHECK.compare("mean " + i + " is not below the one ahead", "true", "" + rises);
                last = new BigInteger[] {upper, lower};
            }
        }
    }

    private static void percentileOfFew() {
        for (int m : new int[] {1, 2, 7, 10, 60}) {
            Subject x = new Subject(CHECK, "promise 12").row(0, 1, 0, 1).row(0, 0, 40, 2).row(0, 100, 3, 3)
                    .row(0, 17, 3, 4).draw(99, m, false, 4);
            for (int side = 0; side <= 1; side++) {
                int of = side;
                x.percentile(0, 1, side, Long.parseLong(x.look(it -> it.drawn(0, of))));
                x.percentile(1, 1, side, Long.parseLong(x.look(it -> it.drawn(m - 1, of))));
                x.percentile(1, 2, side, Long.parseLong(x.look(it -> it.drawn((m + 1) / 2 - 1, of))));
            }
        }
    }
}
