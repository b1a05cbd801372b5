/** Promises 14 to 16 (compare, raised, forget), for ordinary odds; their edges are EdgesTest's. */
final class ComparesTest {
    private static final Check CHECK = new Check("ComparesTest");

    public static void main(String[] args) {
        raisedOfOne();
        raisedByHand();
        raisedAtItsWidest();
        forgetTakesAll();
        CHECK.end();
    }

    private static Subject with(int... upsAndDowns) {
        Subject x = new Subject(CHECK, "promise 15");
        for (int i = 0; i + 1 < upsAndDowns.length; i += 2) {
            x.compare(upsAndDowns[i], upsAndDowns[i + 1], i / 2);
        }
        return x;
    }

    private static void is(Subject x, int way, int number, long upper, long lower) {
        x.raised(way, number, 0, upper).raised(way, number, 1, lower);
    }

    private static void raisedOfOne() {
        for (int way = 0; way <= 2; way++) {
            is(with(6, 100), way, 0, 3, 50);
        }
    }

    private static void raisedByHand() {
        Subject four = with(4, 100, 1, 100, 3, 100, 2, 100);
        int[] hundredths = {4, 1, 3, 2};
        for (int number = 0; number < 4; number++) {
            is(four, 0, number, hundredths[number], 25);
            is(four, 2, number, 1, 25);
        }
        is(four, 1, 1, 1, 25);
        is(four, 1, 3, 3, 50);
        is(four, 1, 2, 3, 50);
        is(four, 1, 0, 3, 50);
        Subject three = with(1, 100, 10, 100, 3, 10);
        is(three, 1, 0, 3, 100);
        is(three, 1, 1, 1, 5);
        is(three, 1, 2, 3, 10);
        is(three, 2, 0, 3, 100);
        is(three, 2, 1, 3, 20);
        is(three, 2, 2, 3, 10);
    }

    private static void raisedAtItsWidest() {
        int[] all = new int[20];
        for (int i = 0; i < 10; i++) {
            all[2 * i] = 9990 + i;
            all[2 * i + 1] = 99991;
        }
        Subject x = with(all);
        is(x, 0, 0, 99900, 99991);
        is(x, 0, 1, 99910, 99991);
        is(x, 1, 0, 99900, 99991);
        is(x, 1, 9, 99900, 99991);
        is(x, 2, 0, 9999, 99991);
        is(x, 2, 9, 9999, 99991);
    }

    private static void forgetTakesAll() {
        Subject x = with(1, 2, 1, 3).row(0, 1, 0, 1).draw(1, 5, false, 1).begin(1, 2, 1, 2, 1);
        x.forget(2).count(3, 0).forget(0).count(0, 1).count(2, 5).test(0, 0).compare(1, 7, 0);
        is(x, 0, 0, 1, 7);
    }
}
