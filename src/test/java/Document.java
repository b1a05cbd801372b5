import java.io.IOException;
import java.nio.file.Files;
import java.nio.file.Path;
import java.util.ArrayList;
import java.util.BitSet;
import java.util.LinkedHashSet;
import java.util.List;
import java.util.Set;
import java.util.regex.Matcher;
import java.util.regex.Pattern;

/** The document's words, and which of them a test has quoted. */
final class Document {
    static final int PROMISES = 21;

    private static final Path FILE = Path.of("..", "shared", "DOC.md");
    private static final String TERMS = "## Terms";
    private static final Pattern FACE = Pattern.compile("```java\\n(.*?)```", Pattern.DOTALL);
    private static final Pattern AHEAD =
            Pattern.compile("Ahead of the calls (.*?) the interface says: ---- (.*?)\\.");

    private final String written;
    private final String text;
    private final BitSet quoted = new BitSet();

    Document() {
        written = read();
        text = plain(written);
    }

    private static String read() {
        try {
            return Files.readString(FILE);
        } catch (IOException e) {
            System.out.println(FILE + " cannot be read: what the tests hold against it is not looked at");
            return "";
        }
    }

    /** Without what sets the words off and says nothing itself. */
    private static String plain(String words) {
        return words.replaceAll("```\\w*|======== \\d", " ").replaceAll("\\s+", " ").trim();
    }

    boolean isThere() {
        return !text.isEmpty();
    }

    /** A promise's own words hold in its own section; what is said for all stands ahead of the promises. */
    boolean says(int promise, String words) {
        boolean said = quote(startOf(promise), endOf(promise), plain(words));
        return quote(0, startOf(1), plain(words)) || said;
    }

    private boolean quote(int from, int to, String words) {
        boolean said = false;
        for (int at = text.indexOf(words, from); at >= 0 && at + words.length() <= to;
                at = text.indexOf(words, at + 1)) {
            quoted.set(at, at + words.length());
            said = true;
        }
        return said;
    }

    /** What the terms say, or a promise behind its signature, and no test has quoted. */
    List<String> unquoted() {
        List<String> left = new ArrayList<>();
        addUnquoted(left, "terms", text.indexOf(TERMS) + TERMS.length(), text.indexOf("Ahead of the calls"));
        for (int promise = 1; promise <= PROMISES; promise++) {
            addUnquoted(left, "promise " + promise, behindSignature(promise), endOf(promise));
        }
        return left;
    }

    private void addUnquoted(List<String> left, String where, int from, int end) {
        int at = quoted.nextClearBit(from);
        while (at < end) {
            int next = quoted.nextSetBit(at);
            int to = next < 0 || next > end ? end : next;
            if (!text.substring(at, to).replaceAll("[;:,. ]", "").isEmpty()) {
                left.add(where + ": " + text.substring(at, to).trim());
            }
            at = quoted.nextClearBit(to);
        }
    }

    /** The lines of the public face, but for the brackets round them. */
    List<String> face() {
        List<String> lines = new ArrayList<>();
        Matcher face = FACE.matcher(written);
        if (face.find()) {
            for (String line : face.group(1).split("\n")) {
                if (!line.equals("}")) {
                    lines.add(line.trim());
                }
            }
        }
        return lines;
    }

    /** What the interface says ahead of which calls: the words, and the names of the calls behind them. */
    List<String> headings() {
        List<String> headings = new ArrayList<>();
        Matcher ahead = AHEAD.matcher(text);
        while (ahead.find()) {
            headings.add(ahead.group(2) + ": " + ahead.group(1).replace("`", ""));
        }
        return headings;
    }

    /** As a promise writes its call, without what it throws. */
    String callOf(int promise) {
        int from = text.indexOf('`', startOf(promise)) + 1;
        return text.substring(from, text.indexOf(')', from) + 1);
    }

    /** How a promise's call is refused, the first that counts first. */
    List<String> refusalsOf(int promise) {
        String words = text.substring(behindSignature(promise), endOf(promise));
        List<String> refusals = refusalsIn(words);
        if (words.contains("OUTSIDE: side (first)")) {
            refusals.remove("OUTSIDE");
            refusals.add(0, "OUTSIDE");
        }
        return refusals;
    }

    /** The codes and exceptions that a text names, each once. */
    static List<String> refusalsIn(String words) {
        Set<String> refusals = new LinkedHashSet<>();
        Matcher named = Pattern.compile("OUTSIDE|FULL|NONE|\\w+Exception").matcher(words);
        while (named.find()) {
            refusals.add(named.group());
        }
        return new ArrayList<>(refusals);
    }

    private int behindSignature(int promise) {
        return text.indexOf("`: ", startOf(promise)) + 3;
    }

    private int startOf(int promise) {
        return text.indexOf("## Promise " + promise + ":");
    }

    private int endOf(int promise) {
        return text.indexOf("## ", startOf(promise) + 3);
    }
}
