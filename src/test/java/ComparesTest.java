/** Promises 14 (compare), 15 (raised) and 16 (forget). */
final class ComparesTest {
    private static final Check CHECK = new Check("ComparesTest");
    private static BoundDraws x;

    public static void main(String[] args) {
        compareNumbersUpToTen();
        compareOutside();
        raisedOfOne();
        raisedByHand();
        raisedOfLikeOnes();
        raisedIsOneIfAbove();
        raisedAtItsWidest();
        raisedRefuses();
        forgetTakesAll();
        CHECK.end();
    }

    private static void compare(int up, int down, long want) {
        CHECK.due("compare(" + up + ", " + down + ")", want, () -> x.compare(up, down));
    }

    private static void raised(int way, int number, long upper, long lower) {
        CHECK.due("raised(" + way + ", " + number + ", 0)", upper, () -> x.raised(way, number, 0));
        CHECK.due("raised(" + way + ", " + number + ", 1)", lower, () -> x.raised(way, number, 1));
    }

    private static void newWith(int... upsAndDowns) {
        x = new BoundDraws();
        for (int i = 0; i + 1 < upsAndDowns.length; i += 2) {
            compare(upsAndDowns[i], upsAndDowns[i + 1], i / 2);
        }
    }

    private static void compareNumbersUpToTen() {
        x = new BoundDraws();
        for (int i = 0; i < 10; i++) {
            compare(i, 100000, i);
        }
        compare(1, 2, BoundDraws.FULL);
        compare(2, 1, BoundDraws.OUTSIDE);
        CHECK.due("count(3)", 10, () -> x.count(3));
        raised(0, 9, 9, 10000);
    }

    private static void compareOutside() {
        x = new BoundDraws();
        int[][] wrong = {{0, 0}, {1, 0}, {1, 100001}, {-1, 2}, {3, 2}, {-1, -1},
            {Integer.MAX_VALUE, Integer.MAX_VALUE}, {Integer.MIN_VALUE, Integer.MIN_VALUE}};
        for (int[] w : wrong) {
            compare(w[0], w[1], BoundDraws.OUTSIDE);
        }
        CHECK.due("count(3)", 0, () -> x.count(3));
        compare(0, 1, 0);
        compare(100000, 100000, 1);
    }

    private static void raisedOfOne() {
        newWith(6, 100);
        for (int way = 0; way <= 2; way++) {
            raised(way, 0, 3, 50);
        }
        newWith(0, 77);
        for (int way = 0; way <= 2; way++) {
            raised(way, 0, 0, 1);
        }
        newWith(77, 77);
        for (int way = 0; way <= 2; way++) {
            raised(way, 0, 1, 1);
        }
    }

    private static void raisedByHand() {
        newWith(4, 100, 1, 100, 3, 100, 2, 100);
        raised(0, 0, 4, 25);
        raised(0, 1, 1, 25);
        raised(0, 2, 3, 25);
        raised(0, 3, 2, 25);
        raised(1, 1, 1, 25);
        raised(1, 3, 3, 50);
        raised(1, 2, 3, 50);
        raised(1, 0, 3, 50);
        for (int number = 0; number < 4; number++) {
            raised(2, number, 1, 25);
        }
        newWith(1, 100, 10, 100, 3, 10);
        raised(1, 0, 3, 100);
        raised(1, 1, 1, 5);
        raised(1, 2, 3, 10);
        raised(2, 0, 3, 100);
        raised(2, 1, 3, 20);
        raised(2, 2, 3, 10);
    }

    private static void raisedOfLikeOnes() {
        newWith(1, 20, 5, 100, 2, 40);
        for (int number = 0; number < 3; number++) {
            raised(0, number, 3, 20);
            raised(1, number, 3, 20);
            raised(2, number, 1, 20);
        }
    }

    private static void raisedIsOneIfAbove() {
        newWith(1, 2, 1, 1, 99, 100);
        for (int number = 0; number < 3; number++) {
            raised(0, number, 1, 1);
            raised(1, number, 1, 1);
        }
        raised(2, 0, 1, 1);
        raised(2, 1, 1, 1);
        raised(2, 2, 1, 1);
        newWith(1, 3, 1, 1, 1, 1);
        raised(0, 0, 1, 1);
        raised(2, 0, 1, 1);
        newWith(1, 2, 1, 2);
        raised(0, 0, 1, 1);
        raised(1, 1, 1, 1);
        raised(2, 0, 1, 2);
    }

    private static void raisedAtItsWidest() {
        int[] all = new int[20];
        for (int i = 0; i < 10; i++) {
            all[2 * i] = 9990 + i;
            all[2 * i + 1] = 99991;
        }
        newWith(all);
        raised(0, 0, 99900, 99991);
        raised(0, 1, 99910, 99991);
        raised(1, 0, 99900, 99991);
        raised(1, 9, 99900, 99991);
        raised(2, 0, 9999, 99991);
        raised(2, 9, 9999, 99991);
    }

    private static void raisedRefuses() {
        newWith(1, 2);
        CHECK.due("raised(-1, 0, 0)", BoundDraws.OUTSIDE, () -> x.raised(-1, 0, 0));
        CHECK.due("raised(3, 0, 0)", BoundDraws.OUTSIDE, () -> x.raised(3, 0, 0));
        CHECK.due("raised(0, 0, -1)", BoundDraws.OUTSIDE, () -> x.raised(0, 0, -1));
        CHECK.due("raised(0, 0, 2)", BoundDraws.OUTSIDE, () -> x.raised(0, 0, 2));
        CHECK.due("raised(3, 7, 0)", BoundDraws.OUTSIDE, () -> x.raised(3, 7, 0));
        CHECK.due("raised(0, 7, 2)", BoundDraws.OUTSIDE, () -> x.raised(0, 7, 2));
        for (int way = 0; way <= 2; way++) {
            raised(way, 1, BoundDraws.NONE, BoundDraws.NONE);
            raised(way, -1, BoundDraws.NONE, BoundDraws.NONE);
            raised(way, 10, BoundDraws.NONE, BoundDraws.NONE);
            raised(way, Integer.MAX_VALUE, BoundDraws.NONE, BoundDraws.NONE);
        }
    }

    private static void forgetTakesAll() {
        newWith(1, 2, 1, 3);
        x.row(0, 1, 0);
        x.draw(1, 5, false);
        x.begin(1, 2, 1, 2);
        CHECK.due("forget()", 2, () -> x.forget());
        CHECK.due("count(3)", 0, () -> x.count(3));
        raised(0, 0, BoundDraws.NONE, BoundDraws.NONE);
        CHECK.due("forget()", 0, () -> x.forget());
        CHECK.due("count(0)", 1, () -> x.count(0));
        CHECK.due("count(2)", 5, () -> x.count(2));
        CHECK.due("test(0)", 0, () -> x.test(0));
        compare(1, 7, 0);
        raised(0, 0, 1, 7);
    }
}
