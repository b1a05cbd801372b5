import java.io.IOException;
import java.nio.file.Files;
import java.nio.file.Path;
import java.util.ArrayList;
import java.util.BitSet;
import java.util.List;

/** The document's words, and which of them a test has quoted. */
final class Document {
    private static final Path FILE = Path.of("..", "shared", "DOC.md");
    private static final int PROMISES = 21;

    private final String text;
    private final BitSet quoted = new BitSet();

    Document() {
        text = read();
    }

    private static String read() {
        try {
            return plain(Files.readString(FILE));
        } catch (IOException e) {
            System.out.println(FILE + " cannot be read: the words that the tests quote are not looked at");
            return "";
        }
    }

    private static String plain(String words) {
        return words.replaceAll("\\s+", " ").trim();
    }

    boolean isThere() {
        return !text.isEmpty();
    }

    /** A promise's own words hold in its own section; what is said for all stands ahead of the promises. */
    boolean says(int promise, String words) {
        boolean said = quote(startOf(promise), endOf(promise), plain(words));
        return quote(0, startOf(1), plain(words)) || said;
    }

    private boolean quote(int from, int to, String words) {
        boolean said = false;
        for (int at = text.indexOf(words, from); at >= 0 && at + words.length() <= to;
                at = text.indexOf(words, at + 1)) {
            quoted.set(at, at + words.length());
            said = true;
        }
        return said;
    }

    /** What a promise says behind its signature and no test has quoted. */
    List<String> unquoted() {
        List<String> left = new ArrayList<>();
        for (int promise = 1; promise <= PROMISES; promise++) {
            int end = endOf(promise);
            int at = text.indexOf("`: ", startOf(promise)) + 3;
            for (at = quoted.nextClearBit(at); at < end; at = quoted.nextClearBit(at)) {
                int next = quoted.nextSetBit(at);
                int to = next < 0 || next > end ? end : next;
                String words = text.substring(at, to).replaceAll("[;:,. ]", "");
                if (!words.isEmpty()) {
                    left.add("promise " + promise + ": " + text.substring(at, to).trim());
                }
                at = to;
            }
        }
        return left;
    }

    private int startOf(int promise) {
        return text.indexOf("## Promise " + promise + ":");
    }

    private int endOf(int promise) {
        return text.indexOf("## ", startOf(promise) + 3);
    }
}
