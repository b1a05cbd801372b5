import java.util.TreeSet;

/** Tests of single sentences: each is told with its promise and the document's own words. */
final class Edges {
    static final int[] FAR = {Integer.MIN_VALUE, Integer.MAX_VALUE};

    private final Check check;
    private final Document document = new Document();
    private final TreeSet<Integer> promises = new TreeSet<>();
    private String heading = "";

    Edges(Check check) {
        this.check = check;
    }

    /** From here on the calls are of this sentence. */
    void sentence(int promise, String words) {
        heading = "promise " + promise + ", \"" + words + "\"";
        promises.add(promise);
        if (document.isThere()) {
            check.compare(heading + " stands in the document", "true", "" + document.says(promise, words));
        }
    }

    Subject fresh() {
        return new Subject(check, heading);
    }

    Subject in(State state) {
        Subject x = fresh();
        state.reach(x);
        return x;
    }

    /** Calls that are refused, in this state, and that nothing is changed by them. */
    void refused(State state, Subject.Calls calls) {
        Subject refusing = in(state);
        calls.on(refusing);
        String after = State.seen(refusing);
        check.compare(heading + ": " + state + ", what is there behind the refused calls", State.seen(in(state)), after);
    }

    void refusedEverywhere(Subject.Calls calls) {
        for (State state : State.values()) {
            refused(state, calls);
        }
    }

    void isSame(String what, String want, String got) {
        check.compare(heading + ": " + what, want, got);
    }

    /** Each promise has its tests, and each of its sentences. */
    void end() {
        check.compare("promises with tests of their sentences", "21", "" + promises.size());
        if (document.isThere()) {
            check.compare("sentences of promises that no test quotes", "[]", "" + document.unquoted());
        }
    }
}
