import java.util.List;
import java.util.TreeSet;

/** Tests of single sentences: each is told with its promise and the document's own words. */
final class Edges {
    static final int[] FAR = {Integer.MIN_VALUE, Integer.MAX_VALUE};

    private final Check check;
    private final Document document = new Document();
    private final TreeSet<Integer> promises = new TreeSet<>();
    private String heading = "";

    Edges(Check check) {
        this.check = check;
    }

    /** From here on the calls are of this sentence. */
    void sentence(int promise, String words) {
        heading = "promise " + promise + ", \"" + words + "\"";
        promises.add(promise);
        if (document.isThere()) {
            check.compare(heading + " stands in the document", "true", "" + document.says(promise, words));
        }
    }

    Subject fresh() {
        return new Subject(check, heading);
    }

    Subject in(State state) {
        Subject x = fresh();
        state.reach(x);
        return x;
    }

    /** Calls that are refused, in this state, and that nothing is changed by them. */
    void refused(State state, Subject.Calls calls) {
        Subject refusing = in(state);
        calls.on(refusing);
        looksLike(state + ", behind the refused calls", in(state), refusing);
    }

    void refusedEverywhere(Subject.Calls calls) {
        for (State state : State.values()) {
            refused(state, calls);
        }
    }

    /** Two objects answer the same to all that can be asked of them. */
    void looksLike(String what, Subject want, Subject got) {
        List<String> wanted = State.seen(want);
        List<String> seen = State.seen(got);
        int same = 0;
        while (same < Math.min(wanted.size(), seen.size()) && wanted.get(same).equals(seen.get(same))) {
            same++;
        }
        isSame(what, answerBehind(same, wanted), answerBehind(same, seen));
    }

    private static String answerBehind(int same, List<String> answers) {
        return same < answers.size() ? answers.get(same) : "nothing more";
    }

    void isSame(String what, String want, String got) {
        check.compare(heading + ": " + what, want, got);
    }

    /** Each promise has its tests, and each of its sentences and of the terms'. */
    void end() {
        check.compare("promises with tests of their sentences", "" + Document.PROMISES, "" + promises.size());
        if (document.isThere()) {
            check.compare("sentences of terms and promises that no test quotes", "[]", "" + document.unquoted());
        }
    }
}
