/** The sentences of promises 14 (compare), 15 (raised) and 16 (forget), and of their terms. */
final class ComparesEdges {
    private static final int OUTSIDE = BoundDraws.OUTSIDE;
    private static final int FULL = BoundDraws.FULL;
    private static final int NONE = BoundDraws.NONE;

    private final Edges edges;

    private ComparesEdges(Edges edges) {
        this.edges = edges;
    }

    static void run(Edges edges) {
        ComparesEdges it = new ComparesEdges(edges);
        it.compareNumbers();
        it.compareOutside();
        it.compareFull();
        it.raisedByMany();
        it.raisedByPlaces();
        it.raisedByLeast();
        it.raisedOneIfAbove();
        it.raisedLikeOnes();
        it.raisedInLowestTerms();
        it.raisedOutside();
        it.raisedNone();
        it.forgetCounts();
    }

    private Subject with(int... upsAndDowns) {
        Subject x = edges.fresh();
        for (int i = 0; i + 1 < upsAndDowns.length; i += 2) {
            x.compare(upsAndDowns[i], upsAndDowns[i + 1], i / 2);
        }
        return x;
    }

    private Subject withTenOf(int up, int down) {
        Subject x = edges.fresh();
        for (int i = 0; i < 10; i++) {
            x.compare(up, down, i);
        }
        return x;
    }

    private static void is(Subject x, int way, int number, long upper, long lower) {
        x.raised(way, number, 0, upper).raised(way, number, 1, lower);
    }

    private void compareNumbers() {
        edges.sentence(14, "A COMPARE more, of odds up / down: its number.");
        Subject x = edges.fresh();
        for (int i = 0; i < 10; i++) {
            x.compare(i, 99999, i).count(3, i + 1);
        }
        edges.in(State.SOME).compare(1, 2, 2).forget(3).compare(1, 2, 0);
        edges.in(State.FULL).forget(10).compare(1, 2, 0).compare(1, 2, 1);
    }

    private void compareOutside() {
        edges.sentence(14, "OUTSIDE: down is not 1 to 100000");
        edges.refusedEverywhere(x -> {
            x.compare(0, 0, OUTSIDE).compare(1, 0, OUTSIDE).compare(0, -1, OUTSIDE).compare(-1, -1, OUTSIDE);
            x.compare(0, 100001, OUTSIDE).compare(1, 100001, OUTSIDE).compare(100001, 100001, OUTSIDE);
            for (int far : Edges.FAR) {
                x.compare(0, far, OUTSIDE).compare(far, far, OUTSIDE);
            }
        });
        is(with(1, 1), 0, 0, 1, 1);
        is(with(1, 100000), 0, 0, 1, 100000);

        edges.sentence(14, "up not 0 to down");
        edges.refusedEverywhere(x -> {
            x.compare(-1, 1, OUTSIDE).compare(2, 1, OUTSIDE);
            x.compare(-1, 100000, OUTSIDE).compare(100001, 100000, OUTSIDE);
            for (int far : Edges.FAR) {
                x.compare(far, 100000, OUTSIDE);
            }
        });
        is(with(0, 1), 0, 0, 0, 1);
        is(with(0, 100000), 0, 0, 0, 1);
        is(with(100000, 100000), 0, 0, 1, 1);
        is(with(99999, 100000), 0, 0, 99999, 100000);
    }

    private void compareFull() {
        edges.sentence(14, "up not 0 to down; FULL.");
        edges.refused(State.FULL, x -> x.compare(1, 2, FULL).compare(0, 1, FULL).compare(100000, 100000, FULL));

        edges.sentence(14, "COMPARES (10 at most) have odds p, fractions.");
        withTenOf(1, 2).count(3, 10).compare(1, 2, FULL).count(3, 10).forget(10).compare(1, 2, 0);

        edges.sentence(14, "of several the first one that a call names: OUTSIDE -1 (a number is not as told),"
                + " FULL -2 (no room)");
        edges.refused(State.FULL, x -> x.compare(1, 0, OUTSIDE).compare(2, 1, OUTSIDE).compare(-1, 1, OUTSIDE)
                .compare(1, 100001, OUTSIDE));
    }

    private void raisedByMany() {
        edges.sentence(15, "RAISED (all with m, how many there are; 1, if it is above): 0: each is m p.");
        Subject x = with(3, 100);
        is(x, 0, 0, 3, 100);
        x.compare(1, 100, 1);
        is(x, 0, 0, 3, 50);
        is(x, 0, 1, 1, 50);
        x.compare(0, 100, 2);
        is(x, 0, 0, 9, 100);
        is(x, 0, 2, 0, 1);
        is(withTenOf(1, 100000), 0, 9, 1, 10000);
    }

    private void raisedByPlaces() {
        edges.sentence(15, "1: they stand by p, of like ones the earlier ahead, from place 1 on; that at place j is the"
                + " greatest of (m + 1 - i) p of those at places i to j.");
        is(with(3, 100), 1, 0, 3, 100);
        // at the first place by m, at the last by 1, and never below the one ahead
        Subject x = with(9, 10, 1, 10);
        is(x, 1, 1, 1, 5);
        is(x, 1, 0, 9, 10);
        Subject y = with(3, 100, 1, 100, 2, 100);
        is(y, 1, 1, 3, 100);
        is(y, 1, 2, 1, 25);
        is(y, 1, 0, 1, 25);
        // once more, behind one that was greater
        is(y, 1, 1, 3, 100);
        // just as great: (m + 1 - i) p is 6 / 100 at each place
        Subject z = with(6, 100, 2, 100, 3, 100);
        for (int number = 0; number < 3; number++) {
            is(z, 1, number, 3, 50);
        }
        // by p, not by what is left of wide products: 30000 times 100000 has more than 31 bits
        Subject wide = with(30000, 100000, 1, 100000);
        is(wide, 1, 1, 1, 50000);
        is(wide, 1, 0, 3, 10);
        is(wide, 2, 1, 1, 50000);
        is(wide, 2, 0, 3, 10);
        // next to one another as near as can be: cross products of 10 to the 10-th that differ by 1
        Subject near = with(1, 99999, 1, 100000);
        is(near, 1, 1, 1, 50000);
        is(near, 1, 0, 1, 50000);
    }

    private void raisedByLeast() {
        edges.sentence(15, "2: that at place j is the least of m p / i of those at places i from j on.");
        is(with(3, 100), 2, 0, 3, 100);
        Subject x = with(9, 100, 1, 100, 2, 100);
        is(x, 2, 1, 3, 100);
        is(x, 2, 2, 3, 100);
        is(x, 2, 0, 9, 100);
        Subject y = with(6, 100, 5, 100, 4, 100);
        for (int number = 0; number < 3; number++) {
            is(y, 2, number, 3, 50);
        }
        // once more, behind one that was less
        is(x, 2, 1, 3, 100);
        is(x, 2, 0, 9, 100);
        // the one ahead is not taken in
        Subject z = with(1, 10, 9, 10);
        is(z, 2, 0, 1, 5);
        is(z, 2, 1, 9, 10);
        Subject near = with(99999, 100000, 99998, 99999);
        is(near, 2, 0, 99999, 100000);
        is(near, 2, 1, 99999, 100000);
    }

    private void raisedOneIfAbove() {
        edges.sentence(15, "1, if it is above");
        Subject below = withTenOf(9999, 100000);
        Subject just = withTenOf(10000, 100000);
        Subject above = withTenOf(10001, 100000);
        for (int number = 0; number < 10; number++) {
            is(below, 0, number, 9999, 10000);
            is(below, 1, number, 9999, 10000);
            is(just, 0, number, 1, 1);
            is(just, 1, number, 1, 1);
            is(above, 0, number, 1, 1);
            is(above, 1, number, 1, 1);
        }
        is(above, 2, 0, 10001, 100000);
        // the greatest of all is above 1 from the first place on, though the last one by itself is not
        Subject x = with(99, 100, 60, 100);
        is(x, 1, 1, 1, 1);
        is(x, 1, 0, 1, 1);
        is(x, 2, 1, 99, 100);
        Subject sure = withTenOf(1, 1);
        for (int way = 0; way <= 2; way++) {
            is(sure, way, 0, 1, 1);
            is(sure, way, 9, 1, 1);
            is(with(1, 1), way, 0, 1, 1);
            is(with(99999, 100000), way, 0, 99999, 100000);
        }
    }

    private void raisedLikeOnes() {
        edges.sentence(15, "of like ones the earlier ahead");
        // like ones have places of their own, however they are written: 1, 2 and 3
        Subject x = with(1, 20, 5, 100, 2, 40);
        for (int number = 0; number < 3; number++) {
            is(x, 1, number, 3, 20);
            is(x, 2, number, 1, 20);
        }
        Subject y = with(1, 10, 2, 20, 1, 100);
        is(y, 1, 2, 3, 100);
        is(y, 1, 0, 1, 5);
        is(y, 1, 1, 1, 5);
        is(y, 2, 2, 3, 100);
        is(y, 2, 0, 1, 10);
        is(y, 2, 1, 1, 10);
        Subject none = with(0, 7, 0, 9, 1, 2);
        for (int way = 0; way <= 2; way++) {
            is(none, way, 0, 0, 1);
            is(none, way, 1, 0, 1);
        }
        is(none, 1, 2, 1, 2);
        is(none, 2, 2, 1, 2);
    }

    private void raisedInLowestTerms() {
        edges.sentence(15, "Fractions are in lowest terms, told by side: 0 the upper number, 1 the lower one"
                + " (0 is 0 / 1).");
        Subject x = with(0, 100000);
        Subject y = with(50000, 100000);
        for (int way = 0; way <= 2; way++) {
            is(x, way, 0, 0, 1);
            is(y, way, 0, 1, 2);
        }
        is(with(1, 6, 1, 6, 1, 6), 0, 0, 1, 2);
        is(with(2, 6, 3, 6, 3, 6), 2, 0, 1, 2);
    }

    private void raisedOutside() {
        edges.sentence(15, "The odds of a COMPARE, RAISED by way 0, 1, 2. OUTSIDE: way, side");
        edges.refusedEverywhere(x -> {
            for (int number : new int[] {0, -1, 10}) {
                x.raised(-1, number, 0, OUTSIDE).raised(3, number, 1, OUTSIDE);
                x.raised(0, number, -1, OUTSIDE).raised(1, number, 2, OUTSIDE).raised(2, number, 2, OUTSIDE);
                for (int far : Edges.FAR) {
                    x.raised(far, number, 0, OUTSIDE).raised(0, number, far, OUTSIDE);
                }
            }
        });
        Subject x = with(1, 20);
        for (int way = 0; way <= 2; way++) {
            is(x, way, 0, 1, 20);
        }
    }

    private void raisedNone() {
        edges.sentence(15, "NONE: there is no such COMPARE.");
        for (State state : State.values()) {
            int many = state == State.EMPTY ? 0 : state == State.SOME ? 2 : 10;
            edges.refused(state, x -> {
                for (int way = 0; way <= 2; way++) {
                    x.raised(way, many, 0, NONE).raised(way, many, 1, NONE).raised(way, -1, 0, NONE);
                    x.raised(way, 10, 1, NONE).raised(way, 11, 0, NONE);
                    x.raised(way, Integer.MIN_VALUE, 0, NONE).raised(way, Integer.MAX_VALUE, 0, NONE);
                }
            });
        }
        is(withTenOf(1, 1000), 0, 9, 1, 100);
        with(1, 20).raised(0, 0, 0, 1).forget(1).raised(0, 0, 0, NONE).compare(1, 30, 0).raised(0, 0, 1, 30)
                .clear(0).raised(0, 0, 0, NONE);

        edges.sentence(15, "Codes, of several the first one that a call names");
        edges.refused(State.EMPTY, x -> x.raised(3, 0, 0, OUTSIDE).raised(0, 0, 2, OUTSIDE).raised(0, 0, 0, NONE));
    }

    private void forgetCounts() {
        edges.sentence(16, "No COMPARES: how many there were.");
        edges.fresh().forget(0).count(3, 0).forget(0);
        edges.in(State.SOME).forget(2).count(3, 0).forget(0).raised(0, 0, 0, NONE);
        edges.in(State.FULL).forget(10).count(3, 0).forget(0).raised(0, 9, 0, NONE);
        // nothing but the COMPARES goes: what is there is as if there had been none
        Subject without = edges.fresh();
        without.row(3, 5, 1, 1).row(3, 9, 10, 2).row(0, 70, 20, 3).draw(4, 9, false, 3);
        without.begin(1, 4, 1, 8, 1).hit(true, 0).hit(false, 0);
        edges.looksLike("SOME, behind forget()", without, edges.in(State.SOME).forget(2));
    }
}
