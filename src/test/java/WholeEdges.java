import java.util.function.ToLongFunction;

/** The sentences of promises 1 (a new object), 20 (count) and 21 (clear), and of what holds for all calls. */
final class WholeEdges {
    private static final int OUTSIDE = BoundDraws.OUTSIDE;
    private static final int NONE = BoundDraws.NONE;

    private final Edges edges;

    private WholeEdges(Edges edges) {
        this.edges = edges;
    }

    static void run(Edges edges) {
        WholeEdges it = new WholeEdges(edges);
        it.newObject();
        it.theLastOfAllCalls();
        it.codes();
        it.countOfEach();
        it.countOutside();
        it.clearCounts();
        it.clearAsAtTheBeginning();
    }

    private void newObject() {
        edges.sentence(1, "No rows, nothing drawn, no COMPARES, no TEST.");
        edges.fresh().count(0, 0).count(1, 0).count(2, 0).count(3, 0);
        edges.fresh().drop(NONE).draw(1, 1, false, NONE).draw(1, 1, true, NONE)
                .turned(false, 0, 0).turned(true, 1, 1).wins(1, 0, 0).wins(1, 1, 0).even(1, 0, 1);
        edges.fresh().drawnThrows(0, 0).percentile(0, 1, 0, NONE).shareThrows();
        edges.fresh().raised(0, 0, 0, NONE).raised(1, 0, 0, NONE).raised(2, 0, 0, NONE).forget(0);
        edges.fresh().test(0, NONE).test(1, NONE).test(2, NONE).test(3, NONE).hit(true, NONE);
        // made beside another one that has something
        Subject before = edges.fresh();
        edges.in(State.FULL);
        edges.looksLike("a new object beside a full one", edges.fresh(), before);
    }

    private void theLastOfAllCalls() {
        edges.sentence(1, "An object is used for at most 512 calls after it has been made");
        lastIs("row", x -> x.row(0, 1, 1));
        lastIs("drop", x -> x.drop());
        lastIs("turned", x -> x.turned(false, 2));
        lastIs("even", x -> x.even(50, 0));
        lastIs("draw", x -> x.draw(5, 60, true));
        lastIs("drawn", x -> x.drawn(59, 0));
        lastIs("drawn", x -> x.drawn(60, 0));
        lastIs("percentile", x -> x.percentile(1, 2, 0));
        lastIs("share", x -> x.share());
        lastIs("raised", x -> x.raised(2, 5, 1));
        lastIs("begin", x -> x.begin(1, 2, 1, 2));
        lastIs("hit", x -> x.hit(true));
        lastIs("test", x -> x.test(1));
        lastIs("above", x -> x.above(30, 15, 333, 1000, 0, 9));
        lastIs("odds", x -> x.odds(30, 15, 333, 1000, 0, 1, 2));
        lastIs("bound", x -> x.bound(30, 15, 1, 1, 40));
        lastIs("clear", x -> x.clear());
    }

    /** The 512-th call answers as it would have when the object was not that old. */
    private void lastIs(String name, ToLongFunction<BoundDraws> call) {
        String want = edges.in(State.FULL).look(call);
        Subject x = edges.in(State.FULL);
        while (x.calls() < 511) {
            dearCall(x);
        }
        edges.isSame(name + "() as the 512-th call", want, x.look(call));
    }

    private static void dearCall(Subject x) {
        if (x.calls() % 3 == 0) {
            x.bound(30, 15, 0, 1, 40, 688);
        } else if (x.calls() % 3 == 1) {
            x.draw(-9, 60, false, 30);
        } else {
            x.turned(true, 0, 8);
        }
    }

    private void codes() {
        edges.sentence(1, "OUTSIDE -1 (a number is not as told), FULL -2 (no room), NONE -3 (as told).");
        edges.isSame("OUTSIDE", "-1", "" + BoundDraws.OUTSIDE);
        edges.isSame("FULL", "-2", "" + BoundDraws.FULL);
        edges.isSame("NONE", "-3", "" + BoundDraws.NONE);
        edges.in(State.FULL).row(0, 0, 101, -1).row(0, 0, 100, -2).raised(0, 10, 0, -3);

        edges.sentence(1, "What answers so, or throws, changes nothing.");
        // a refusal of each call that has one, all behind one another
        edges.refused(State.SOME, x -> x.above(31, 0, 1, 2, 0, 0, OUTSIDE).odds(3, 1, 1, 2, 0, 2, 1, OUTSIDE)
                .bound(0, 0, 0, 1, 2, OUTSIDE).boundThrows(5, 3, 0, 2, 2).row(8, 1, 1, OUTSIDE)
                .turned(true, 3, OUTSIDE).wins(102, 0, OUTSIDE).even(-1, 0, OUTSIDE).draw(1, 61, true, OUTSIDE)
                .drawn(0, 2, OUTSIDE).drawnThrows(9, 0).percentile(2, 1, 0, OUTSIDE).compare(2, 1, OUTSIDE)
                .raised(3, 0, 0, OUTSIDE).raised(0, 2, 0, NONE).begin(2, 2, 1, 2, OUTSIDE).beginThrows(1, 2, 2, 2)
                .test(4, OUTSIDE).count(4, OUTSIDE));
        edges.refused(State.EMPTY, x -> x.drop(NONE).draw(1, 1, true, NONE).drawnThrows(0, 0)
                .percentile(1, 1, 0, NONE).shareThrows().raised(0, 0, 0, NONE).hit(true, NONE).test(0, NONE));
        edges.refused(State.FULL, x -> x.row(0, 1, 1, -2).compare(1, 2, -2).hit(true, -2));
        // nor does a call that only tells something
        edges.refused(State.SOME, x -> x.above(30, 15, 1, 3, 0, 0, Model.limbOf(Model.aboveOf(30, 15, 1, 3, 0), 0))
                .odds(2, 1, 1, 2, 0, 3, 4, 1).bound(30, 15, 0, 1, 40, 688).turned(true, 0, 2).wins(50, 0, 1)
                .even(50, 0, 1).count(0, 3).test(0, 2));
    }

    private void countOfEach() {
        edges.sentence(20, "What = 0 rows, 1 GROUPS that have rows, 2 MEANS, 3 COMPARES.");
        edges.fresh().count(0, 0).count(1, 0).count(2, 0).count(3, 0);
        edges.in(State.SOME).count(0, 3).count(1, 2).count(2, 9).count(3, 2);
        edges.in(State.FULL).count(0, 30).count(1, 8).count(2, 60).count(3, 10);
        // a group counts once, and no longer when its last row goes; the first and the last number count, too
        edges.fresh().row(7, 1, 1, 1).count(1, 1).row(7, 1, 1, 2).count(1, 1).row(0, 1, 1, 3).count(1, 2)
                .drop(2).count(1, 1).drop(1).count(1, 1).drop(0).count(1, 0);
        edges.in(State.SOME).drop(2).drop(1).drop(0).count(0, 0).count(1, 0).count(2, 9).count(3, 2);
    }

    private void countOutside() {
        edges.sentence(20, "3 COMPARES. OUTSIDE.");
        edges.refusedEverywhere(x -> {
            for (int what : new int[] {-1, 4, Integer.MIN_VALUE, Integer.MAX_VALUE}) {
                x.count(what, OUTSIDE);
            }
        });
    }

    private void clearCounts() {
        edges.sentence(21, "All is as at the beginning: how many rows there were.");
        edges.fresh().clear(0).clear(0);
        edges.fresh().row(0, 1, 1, 1).clear(1).clear(0);
        edges.in(State.SOME).clear(3).clear(0);
        edges.in(State.FULL).clear(30).clear(0);
        // there were no rows, but the rest goes all the same
        Subject x = edges.in(State.SOME).drop(2).drop(1).drop(0).clear(0);
        edges.looksLike("no rows, behind clear()", edges.fresh(), x);
    }

    private void clearAsAtTheBeginning() {
        edges.sentence(21, "All is as at the beginning");
        edges.looksLike("EMPTY, behind clear()", edges.fresh(), edges.in(State.EMPTY).clear(0));
        edges.looksLike("SOME, behind clear()", edges.fresh(), edges.in(State.SOME).clear(3));
        edges.looksLike("FULL, behind clear()", edges.fresh(), edges.in(State.FULL).clear(30));
        Subject again = edges.in(State.FULL).clear(30);
        State.SOME.reach(again);
        edges.looksLike("SOME once more, behind clear()", edges.in(State.SOME), again);
    }
}
