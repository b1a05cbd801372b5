/** One object under test: each call with the answer that is due, told by its name, and counted. */
final class Subject {
    interface Calls {
        void on(Subject x);
    }

    /** What the document promises nothing beyond. */
    private static final int MOST_CALLS = 512;

    private final Check check;
    private final String heading;
    private final BoundDraws object = new BoundDraws();
    private int calls = 0;

    Subject(Check check, String heading) {
        this.check = check;
        this.heading = heading;
    }

    int calls() {
        return calls;
    }

    /** What a call answers, whatever it is. */
    String look(java.util.function.ToLongFunction<BoundDraws> call) {
        calls++;
        if (calls > MOST_CALLS) {
            throw new IllegalStateException(heading + ": the test uses an object for more than 512 calls");
        }
        return Check.outcome(() -> call.applyAsLong(object));
    }

    private Subject due(String call, long want, java.util.function.ToLongFunction<BoundDraws> made) {
        check.compare(heading + ": " + call, Long.toString(want), look(made));
        return this;
    }

    private Subject dueThrow(String call, Class<? extends RuntimeException> want,
            java.util.function.ToLongFunction<BoundDraws> made) {
        check.compare(heading + ": " + call, "throws " + want.getName(), look(made));
        return this;
    }

    private static String told(String name, Object... arguments) {
        StringBuilder told = new StringBuilder(name).append('(');
        for (int i = 0; i < arguments.length; i++) {
            told.append(i == 0 ? "" : ", ").append(arguments[i]);
        }
        return told.append(')').toString();
    }

    Subject above(int n, int k, int up, int down, int side, int i, long want) {
        return due(told("above", n, k, up, down, side, i), want, x -> x.above(n, k, up, down, side, i));
    }

    Subject odds(int n, int k, int up, int down, int side, int a, int b, long want) {
        return due(told("odds", n, k, up, down, side, a, b), want, x -> x.odds(n, k, up, down, side, a, b));
    }

    Subject bound(int n, int k, int side, int a, int b, long want) {
        return due(told("bound", n, k, side, a, b), want, x -> x.bound(n, k, side, a, b));
    }

    Subject boundThrows(int n, int k, int side, int a, int b) {
        return dueThrow(told("bound", n, k, side, a, b), IllegalArgumentException.class,
                x -> x.bound(n, k, side, a, b));
    }

    Subject row(int group, int left, int right, long want) {
        return due(told("row", group, left, right), want, x -> x.row(group, left, right));
    }

    Subject drop(long want) {
        return due("drop()", want, BoundDraws::drop);
    }

    Subject turned(boolean groups, int what, long want) {
        return due(told("turned", groups, what), want, x -> x.turned(groups, what));
    }

    Subject wins(int t, int what, long want) {
        return due(told("wins", t, what), want, x -> x.wins(t, what));
    }

    Subject even(int t, int side, long want) {
        return due(told("even", t, side), want, x -> x.even(t, side));
    }

    Subject draw(long seed, int times, boolean groups, long want) {
        return due(told("draw", seed, times, groups), want, x -> x.draw(seed, times, groups));
    }

    Subject drawn(int i, int side, long want) {
        return due(told("drawn", i, side), want, x -> x.drawn(i, side));
    }

    Subject drawnThrows(int i, int side) {
        return dueThrow(told("drawn", i, side), IndexOutOfBoundsException.class, x -> x.drawn(i, side));
    }

    Subject percentile(int up, int down, int side, long want) {
        return due(told("percentile", up, down, side), want, x -> x.percentile(up, down, side));
    }

    Subject share(long want) {
        return due("share()", want, BoundDraws::share);
    }

    Subject shareThrows() {
        return dueThrow("share()", ArithmeticException.class, BoundDraws::share);
    }

    Subject compare(int up, int down, long want) {
        return due(told("compare", up, down), want, x -> x.compare(up, down));
    }

    Subject raised(int way, int number, int side, long want) {
        return due(told("raised", way, number, side), want, x -> x.raised(way, number, side));
    }

    Subject forget(long want) {
        return due("forget()", want, BoundDraws::forget);
    }

    Subject begin(int up, int down, int a, int b, long want) {
        return due(told("begin", up, down, a, b), want, x -> x.begin(up, down, a, b));
    }

    Subject beginThrows(int up, int down, int a, int b) {
        return dueThrow(told("begin", up, down, a, b), IllegalArgumentException.class,
                x -> x.begin(up, down, a, b));
    }

    Subject hit(boolean is, long want) {
        return due(told("hit", is), want, x -> x.hit(is));
    }

    Subject hits(int times, boolean is, long want) {
        for (int i = 0; i < times; i++) {
            hit(is, want);
        }
        return this;
    }

    Subject test(int what, long want) {
        return due(told("test", what), want, x -> x.test(what));
    }

    Subject count(int what, long want) {
        return due(told("count", what), want, x -> x.count(what));
    }

    Subject clear(long want) {
        return due("clear()", want, BoundDraws::clear);
    }
}
