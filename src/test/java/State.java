import java.util.ArrayList;
import java.util.List;

/** The states in which an edge is looked at: nothing there, something there, all that there is room for. */
enum State {
    EMPTY {
        @Override
        void reach(Subject x) {
            x.count(0, 0);
        }
    },
    SOME {
        @Override
        void reach(Subject x) {
            x.row(3, 5, 1, 1).row(3, 9, 10, 2).row(0, 70, 20, 3).draw(4, 9, false, 3);
            x.compare(1, 20, 0).compare(1, 30, 1);
            x.begin(1, 4, 1, 8, 1).hit(true, 0).hit(false, 0);
        }
    },
    FULL {
        @Override
        void reach(Subject x) {
            for (int i = 0; i < 30; i++) {
                x.row(i % 8, i * 37 % 101, i * 53 % 97, i + 1);
            }
            x.draw(-9, 60, false, 30);
            for (int i = 0; i < 10; i++) {
                x.compare(10 - i, 1000 + i, i);
            }
            x.begin(1, 2, 1, 1000, 1);
            for (int i = 0; i < 60; i++) {
                x.hit(i % 2 == 0, 0);
            }
        }
    };

    private static final int[] MARKS = {0, 1, 2, 5, 9, 10, 20, 30, 50, 70, 90, 100};

    abstract void reach(Subject x);

    /** All that can be seen of an object, and what it answers to the calls that come then. */
    static List<String> seen(Subject x) {
        List<String> seen = new ArrayList<>();
        counts(x, seen);
        rows(x, seen);
        int means = Integer.parseInt(x.look(of -> of.count(2)));
        means(x, means, seen);
        compares(x, seen);
        nextTries(x, seen);
        nextDraws(x, seen);
        rowsFromTheLast(x, seen);
        return seen;
    }

    private static void counts(Subject x, List<String> seen) {
        for (int what = 0; what <= 3; what++) {
            int of = what;
            tell(seen, "count(" + what + ")", x.look(it -> it.count(of)));
            tell(seen, "test(" + what + ")", x.look(it -> it.test(of)));
        }
    }

    private static void rows(Subject x, List<String> seen) {
        for (int what = 0; what <= 2; what++) {
            int of = what;
            tell(seen, "turned(false, " + what + ")", x.look(it -> it.turned(false, of)));
            tell(seen, "turned(true, " + what + ")", x.look(it -> it.turned(true, of)));
        }
        for (int t : MARKS) {
            tell(seen, "wins(" + t + ", 0)", x.look(it -> it.wins(t, 0)));
            tell(seen, "wins(" + t + ", 1)", x.look(it -> it.wins(t, 1)));
        }
    }

    private static void means(Subject x, int many, List<String> seen) {
        for (int i = 0; i < many; i++) {
            int of = i;
            tell(seen, "drawn(" + i + ", 0)", x.look(it -> it.drawn(of, 0)));
            tell(seen, "drawn(" + i + ", 1)", x.look(it -> it.drawn(of, 1)));
        }
    }

    private static void compares(Subject x, List<String> seen) {
        int many = Integer.parseInt(x.look(of -> of.count(3)));
        for (int number = 0; number < many; number++) {
            for (int way = 0; way <= 2; way++) {
                int by = way;
                int of = number;
                tell(seen, "raised(" + way + ", " + number + ", 0)", x.look(it -> it.raised(by, of, 0)));
                tell(seen, "raised(" + way + ", " + number + ", 1)", x.look(it -> it.raised(by, of, 1)));
            }
        }
    }

    /** The odds and the trust of a TEST are seen only in what tries to come answer. */
    private static void nextTries(Subject x, List<String> seen) {
        for (int i = 0; i < 6; i++) {
            tell(seen, "hit(true)", x.look(it -> it.hit(true)));
            tell(seen, "test(2)", x.look(it -> it.test(2)));
            tell(seen, "test(3)", x.look(it -> it.test(3)));
        }
    }

    /** Which row stands where is seen only in what is drawn. */
    private static void nextDraws(Subject x, List<String> seen) {
        tell(seen, "draw(7, 6, false)", x.look(it -> it.draw(7, 6, false)));
        means(x, Math.min(6, Integer.parseInt(x.look(it -> it.count(2)))), seen);
        tell(seen, "draw(7, 6, true)", x.look(it -> it.draw(7, 6, true)));
        means(x, Math.min(6, Integer.parseInt(x.look(it -> it.count(2)))), seen);
    }

    private static void rowsFromTheLast(Subject x, List<String> seen) {
        for (int i = 0; i < 31; i++) {
            tell(seen, "turned(false, 1)", x.look(it -> it.turned(false, 1)));
            tell(seen, "drop()", x.look(it -> it.drop()));
        }
    }

    private static void tell(List<String> seen, String call, String answer) {
        seen.add(call + " " + answer);
    }
}
