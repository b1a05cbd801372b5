import java.util.Random;

/** Promises 5 to 9 (row, drop, turned, wins, even), for ordinary rows; their edges are EdgesTest's. */
final class RowsTest {
    private static final Check CHECK = new Check("RowsTest");

    public static void main(String[] args) {
        turnedRowsByHand();
        turnedGroupsByHand();
        turnedByTryingEachWay();
        winsByMark();
        evenByHand();
        CHECK.end();
    }

    private static Subject withDifferences(String heading, int... differences) {
        Subject x = new Subject(CHECK, heading);
        for (int i = 0; i < differences.length; i++) {
            x.row(i % 8, Math.max(differences[i], 0), Math.max(-differences[i], 0), i + 1);
        }
        return x;
    }

    private static void turnedRowsByHand() {
        withDifferences("promise 7", 1, 2, 0, 3).turned(false, 0, 3).turned(false, 1, 1).turned(false, 2, 2)
                .drop(3).turned(false, 0, 2).turned(false, 1, 1).turned(false, 2, 2);
        withDifferences("promise 7", 3, -1, 2).turned(false, 1, 2).turned(false, 2, 4);
        withDifferences("promise 7", 1, -3).turned(false, 1, 3).turned(false, 2, 4);
    }

    private static void turnedGroupsByHand() {
        new Subject(CHECK, "promise 7").row(3, 5, 0, 1).row(1, 0, 7, 2).row(3, 0, 5, 3).row(1, 9, 0, 4).row(7, 0, 1, 5)
                .turned(true, 0, 2).turned(true, 1, 2).turned(true, 2, 4)
                .row(7, 0, 2, 6).turned(true, 0, 2).turned(true, 1, 3).turned(true, 2, 4).turned(false, 0, 6);
    }

    /** No table, no mirror: each of the ways by itself. */
    private static void turnedByTryingEachWay() {
        Random random = new Random(11);
        for (int run = 0; run < 60; run++) {
            int wide = run % 3 == 0 ? 3 : 100;
            int[] differences = new int[1 + random.nextInt(12)];
            for (int i = 0; i < differences.length; i++) {
                differences[i] = random.nextInt(2 * wide + 1) - wide;
            }
            tryEachWay(differences);
        }
    }

    private static void tryEachWay(int[] differences) {
        int s = 0;
        int signs = 0;
        for (int difference : differences) {
            s += difference;
            signs += difference != 0 ? 1 : 0;
        }
        long atLeast = 0;
        long asFar = 0;
        for (int way = 0; way < 1 << differences.length; way++) {
            int sum = 0;
            for (int i = 0; i < differences.length; i++) {
                sum += (way >> i & 1) == 0 ? differences[i] : -differences[i];
            }
            atLeast += sum >= s ? 1 : 0;
            asFar += Math.abs(sum) >= Math.abs(s) ? 1 : 0;
        }
        // a difference of 0 was turned too, and each time that made two ways of one
        int twice = differences.length - signs;
        withDifferences("promise 7", differences).turned(false, 0, signs)
                .turned(false, 1, atLeast >> twice).turned(false, 2, asFar >> twice);
    }

    private static void winsByMark() {
        new Subject(CHECK, "promise 8").row(0, 50, 49, 1).row(0, 0, 100, 2).row(0, 100, 0, 3).row(0, 100, 100, 4)
                .row(0, 30, 70, 5).wins(50, 0, 2).wins(50, 1, 2).wins(51, 0, 1).wins(49, 0, 1).wins(100, 0, 1)
                .wins(100, 1, 1).wins(30, 1, 1).wins(31, 1, 2).wins(70, 1, 2).wins(71, 1, 1);
    }

    private static void evenByHand() {
        withDifferences("promise 9", 9, 9).even(5, 0, 1).even(5, 1, 2);
        withDifferences("promise 9", 9, 9, 9, 9, -9).even(5, 0, 3).even(5, 1, 8);
        withDifferences("promise 9", -9, -9, -9, -9, 9).even(5, 0, 3).even(5, 1, 8);
        withDifferences("promise 9", 9, 9, -9, -9).even(5, 0, 1).even(5, 1, 1);
        withDifferences("promise 9", 9, 9, 9, 9, 9, 9, -9).even(5, 0, 1).even(5, 1, 8);
    }
}
