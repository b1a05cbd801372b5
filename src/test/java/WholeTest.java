/** Promises 1 (a new object), 20 (count) and 21 (clear); and that a refused call changes nothing. */
final class WholeTest {
    private static final Check CHECK = new Check("WholeTest");
    private static BoundDraws x;

    public static void main(String[] args) {
        aNewObjectIsEmpty();
        objectsStandAlone();
        countOfEach();
        countOutside();
        clearMakesItNew();
        refusedCallsChangeNothing();
        theConstants();
        CHECK.end();
    }

    private static void count(int what, long want) {
        CHECK.due("count(" + what + ")", want, () -> x.count(what));
    }

    private static void dueAsNew() {
        for (int what = 0; what <= 3; what++) {
            count(what, 0);
        }
        CHECK.due("drop()", BoundDraws.NONE, () -> x.drop());
        CHECK.due("draw(1, 1, false)", BoundDraws.NONE, () -> x.draw(1, 1, false));
        CHECK.due("percentile(1, 1, 0)", BoundDraws.NONE, () -> x.percentile(1, 1, 0));
        CHECK.dueThrow("drawn(0, 0)", IndexOutOfBoundsException.class, () -> x.drawn(0, 0));
        CHECK.dueThrow("share()", ArithmeticException.class, () -> x.share());
        CHECK.due("raised(0, 0, 0)", BoundDraws.NONE, () -> x.raised(0, 0, 0));
        CHECK.due("hit(true)", BoundDraws.NONE, () -> x.hit(true));
        CHECK.due("test(0)", BoundDraws.NONE, () -> x.test(0));
        CHECK.due("turned(false, 1)", 1, () -> x.turned(false, 1));
        CHECK.due("wins(0, 0)", 0, () -> x.wins(0, 0));
        CHECK.due("even(0, 0)", 1, () -> x.even(0, 0));
        CHECK.due("forget()", 0, () -> x.forget());
    }

    private static void fill() {
        x.row(3, 5, 1);
        x.row(3, 9, 10);
        x.row(0, 70, 20);
        x.draw(4, 9, false);
        x.compare(1, 20);
        x.compare(1, 30);
        x.begin(1, 4, 1, 2);
        x.hit(true);
        x.hit(false);
    }

    /** What can be seen of the whole state. */
    private static String seen() {
        StringBuilder seen = new StringBuilder();
        for (int what = 0; what <= 3; what++) {
            seen.append(x.count(what)).append(' ').append(x.test(what)).append(' ');
        }
        for (int what = 0; what <= 2; what++) {
            seen.append(x.turned(false, what)).append(' ').append(x.turned(true, what)).append(' ');
        }
        for (int t = 0; t <= 101; t++) {
            seen.append(x.wins(t, 0)).append(x.wins(t, 1));
        }
        for (int i = 0; i < x.count(2); i++) {
            seen.append(' ').append(x.drawn(i, 0)).append('/').append(x.drawn(i, 1));
        }
        for (int number = 0; number < x.count(3); number++) {
            for (int way = 0; way <= 2; way++) {
                seen.append(' ').append(x.raised(way, number, 0)).append('/').append(x.raised(way, number, 1));
            }
        }
        return seen.toString();
    }

    private static void aNewObjectIsEmpty() {
        x = new BoundDraws();
        dueAsNew();
        CHECK.due("clear()", 0, () -> x.clear());
        dueAsNew();
    }

    private static void objectsStandAlone() {
        x = new BoundDraws();
        fill();
        x = new BoundDraws();
        dueAsNew();
    }

    private static void countOfEach() {
        x = new BoundDraws();
        fill();
        count(0, 3);
        count(1, 2);
        count(2, 9);
        count(3, 2);
        x.drop();
        count(0, 2);
        count(1, 1);
        for (int group = 0; group <= 7; group++) {
            x.row(group, 1, 1);
        }
        count(0, 10);
        count(1, 8);
    }

    private static void countOutside() {
        x = new BoundDraws();
        for (int what : new int[] {-1, 4, Integer.MIN_VALUE, Integer.MAX_VALUE}) {
            count(what, BoundDraws.OUTSIDE);
        }
    }

    private static void clearMakesItNew() {
        x = new BoundDraws();
        fill();
        CHECK.due("clear()", 3, () -> x.clear());
        dueAsNew();
        CHECK.due("clear()", 0, () -> x.clear());
        CHECK.due("row(0, 1, 1)", 1, () -> x.row(0, 1, 1));
        CHECK.due("compare(1, 1)", 0, () -> x.compare(1, 1));
        CHECK.due("begin(1, 2, 1, 2)", 1, () -> x.begin(1, 2, 1, 2));
        CHECK.due("test(0)", 0, () -> x.test(0));
        CHECK.due("test(2)", 0, () -> x.test(2));
        x = new BoundDraws();
        fill();
        String before = seen();
        x.clear();
        fill();
        CHECK.compare("the same calls behind clear()", before, seen());
    }

    private static void unchanged(String what, String before, Check.Call call) {
        Check.outcome(call);
        CHECK.compare("the state behind " + what, before, seen());
    }

    private static void refusedCallsChangeNothing() {
        x = new BoundDraws();
        fill();
        String before = seen();
        unchanged("row(8, 1, 1)", before, () -> x.row(8, 1, 1));
        unchanged("row(0, 1, 101)", before, () -> x.row(0, 1, 101));
        unchanged("draw(9, 61, false)", before, () -> x.draw(9, 61, false));
        unchanged("draw(9, 0, true)", before, () -> x.draw(9, 0, true));
        unchanged("drawn(9, 0)", before, () -> x.drawn(9, 0));
        unchanged("percentile(2, 1, 0)", before, () -> x.percentile(2, 1, 0));
        unchanged("compare(2, 1)", before, () -> x.compare(2, 1));
        unchanged("raised(0, 2, 0)", before, () -> x.raised(0, 2, 0));
        unchanged("begin(1, 1, 1, 2)", before, () -> x.begin(1, 1, 1, 2));
        unchanged("begin(1, 2, 2, 2)", before, () -> x.begin(1, 2, 2, 2));
        unchanged("bound(5, 3, 0, 2, 2)", before, () -> x.bound(5, 3, 0, 2, 2));
        unchanged("bound(30, 15, 0, 1, 40)", before, () -> x.bound(30, 15, 0, 1, 40));
        unchanged("above(30, 15, 1, 3, 0, 0)", before, () -> x.above(30, 15, 1, 3, 0, 0));
        unchanged("count(4)", before, () -> x.count(4));
        unchanged("test(4)", before, () -> x.test(4));
        for (int i = 0; i < 40; i++) {
            x.row(1, 2, 3);
            x.compare(1, 9);
            x.hit(false);
            x.hit(false);
        }
        String full = seen();
        unchanged("row(0, 9, 1), full", full, () -> x.row(0, 9, 1));
        unchanged("compare(1, 2), full", full, () -> x.compare(1, 2));
        unchanged("hit(true), full", full, () -> x.hit(true));
    }

    private static void theConstants() {
        CHECK.due("OUTSIDE", -1, () -> BoundDraws.OUTSIDE);
        CHECK.due("FULL", -2, () -> BoundDraws.FULL);
        CHECK.due("NONE", -3, () -> BoundDraws.NONE);
    }
}
