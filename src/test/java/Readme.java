import java.io.IOException;
import java.nio.file.Files;
import java.nio.file.Path;
import java.util.ArrayList;
import java.util.Arrays;
import java.util.List;
import java.util.regex.MatchResult;
import java.util.regex.Matcher;
import java.util.regex.Pattern;

/** What README.md says in its tables and its example. */
final class Readme {
    /** A call with its parameters' names, and the words on how it is refused. */
    record Call(String written, String name, List<String> parameters, String refused) {
    }

    /** A line of the example, and the answer that it tells of. */
    record Example(String line, String name, List<String> arguments, String answer) {
    }

    /** The numbers that a call takes for a parameter; the greatest may be told by another parameter. */
    record Range(String parameter, int least, String most, boolean lessOne) {
    }

    private static final Pattern CALL = Pattern.compile("\\| `(\\w+ (\\w+)\\((.*?)\\))` \\| .* \\| (.*) \\|");
    private static final Pattern OUTSIDE = Pattern.compile("`OUTSIDE`, unless ([^;]*)");
    private static final Pattern RANGE =
            Pattern.compile("(?:(\\w+) and )?(\\w+)(?: is)? (\\d+) (?:to|or) (\\w+)( less 1)?");
    private static final Pattern EXAMPLE =
            Pattern.compile("x\\.(\\w+)\\((.*)\\); +// (-?\\d+|OUTSIDE|FULL|NONE|throws \\w+)(?:: .*)?");
    private static final Pattern CODE = Pattern.compile("\\| `([A-Z]+)` \\| (-\\d+) \\| .* \\|");
    private static final Pattern EXCEPTION = Pattern.compile("\\| `(\\w+Exception)` \\| (.*) \\| .* \\|");
    private static final Pattern TEST = Pattern.compile("\\| `(\\w+Test)` \\| .* \\|");

    private final List<String> lines;

    Readme() throws IOException {
        lines = Files.readAllLines(Path.of("README.md"));
    }

    private List<MatchResult> linesLike(Pattern pattern) {
        List<MatchResult> like = new ArrayList<>();
        for (String line : lines) {
            Matcher matcher = pattern.matcher(line);
            if (matcher.matches()) {
                like.add(matcher.toMatchResult());
            }
        }
        return like;
    }

    private static List<String> listed(String words) {
        return words.isEmpty() ? List.of() : Arrays.asList(words.split(", "));
    }

    boolean says(String words) {
        return String.join(" ", lines).contains(words);
    }

    List<Call> calls() {
        List<Call> calls = new ArrayList<>();
        for (MatchResult row : linesLike(CALL)) {
            List<String> names = new ArrayList<>();
            for (String parameter : listed(row.group(3))) {
                names.add(parameter.replaceAll(".* ", ""));
            }
            calls.add(new Call(row.group(1), row.group(2), names, row.group(4)));
        }
        return calls;
    }

    static List<Range> rangesOf(Call call) {
        List<Range> ranges = new ArrayList<>();
        Matcher outside = OUTSIDE.matcher(call.refused());
        if (outside.find()) {
            Matcher range = RANGE.matcher(outside.group(1));
            while (range.find()) {
                for (String parameter : new String[] {range.group(1), range.group(2)}) {
                    if (parameter != null) {
                        ranges.add(new Range(parameter, Integer.parseInt(range.group(3)), range.group(4),
                                range.group(5) != null));
                    }
                }
            }
        }
        return ranges;
    }

    List<Example> examples() {
        List<Example> examples = new ArrayList<>();
        for (MatchResult line : linesLike(EXAMPLE)) {
            examples.add(new Example(line.group(), line.group(1), listed(line.group(2)), line.group(3)));
        }
        return examples;
    }

    /** With or without an answer. */
    int callsInExample() {
        return linesLike(Pattern.compile("x\\..*")).size();
    }

    List<String> codes() {
        List<String> codes = new ArrayList<>();
        for (MatchResult row : linesLike(CODE)) {
            codes.add(row.group(1) + " " + row.group(2));
        }
        return codes;
    }

    /** Each exception with each call that throws it. */
    List<String> exceptions() {
        List<String> exceptions = new ArrayList<>();
        for (MatchResult row : linesLike(EXCEPTION)) {
            for (String call : listed(row.group(2))) {
                exceptions.add(row.group(1) + " " + call.replace("`", ""));
            }
        }
        return exceptions;
    }

    List<String> tests() {
        List<String> tests = new ArrayList<>();
        for (MatchResult row : linesLike(TEST)) {
            tests.add(row.group(1));
        }
        return tests;
    }
}
