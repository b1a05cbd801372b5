import java.io.File;
import java.lang.reflect.InvocationTargetException;
import java.lang.reflect.Method;
import java.util.ArrayList;
import java.util.Arrays;
import java.util.HashMap;
import java.util.List;
import java.util.Map;
import java.util.TreeSet;

/** What README.md says, held against the class and the document. */
final class ReadmeTest {
    private static final Check CHECK = new Check("ReadmeTest");
    private static final String OUTSIDE = "" + BoundDraws.OUTSIDE;

    /** Numbers that each call with such a parameter takes. */
    private static final Map<String, String> ORDINARY = new HashMap<>();

    static {
        String[] told = {"n 3", "k 0", "up 1", "down 2", "side 0", "i 0", "a 1", "b 2", "group 0", "x 1", "y 1",
            "groups false", "what 0", "t 1", "seed 1", "times 1", "way 0", "number 0", "is true"};
        for (String one : told) {
            ORDINARY.put(one.split(" ")[0], one.split(" ")[1]);
        }
    }

    public static void main(String[] args) throws Exception {
        Readme readme = new Readme();
        examples(readme);
        codes(readme);
        ranges(readme);
        tests(readme);
        Document document = new Document();
        if (document.isThere()) {
            calls(readme, document);
            exceptions(readme, document);
        }
        CHECK.compare("how many calls an object is used for", "true", "" + readme.says("**at most 512 calls**"));
        CHECK.end();
    }

    /** One behind the other on one object; each call of the face is shown. */
    private static void examples(Readme readme) throws IllegalAccessException {
        BoundDraws x = new BoundDraws();
        TreeSet<String> shown = new TreeSet<>();
        for (Readme.Example example : readme.examples()) {
            CHECK.compare(example.line(), due(example.answer()), answer(x, example.name(), example.arguments()));
            shown.add(example.name());
        }
        CHECK.compare("calls with an answer", "" + readme.callsInExample(), "" + readme.examples().size());
        TreeSet<String> face = new TreeSet<>();
        for (Method method : BoundDraws.class.getDeclaredMethods()) {
            if (java.lang.reflect.Modifier.isPublic(method.getModifiers())) {
                face.add(method.getName());
            }
        }
        CHECK.compare("calls that the example shows", face.toString(), shown.toString());
    }

    private static String due(String told) {
        switch (told) {
            case "OUTSIDE":
                return OUTSIDE;
            case "FULL":
                return "" + BoundDraws.FULL;
            case "NONE":
                return "" + BoundDraws.NONE;
            default:
                return told;
        }
    }

    private static String answer(BoundDraws x, String name, List<String> arguments) throws IllegalAccessException {
        for (Method method : BoundDraws.class.getMethods()) {
            if (method.getName().equals(name) && method.getParameterCount() == arguments.size()) {
                try {
                    return "" + method.invoke(x, values(arguments, method.getParameterTypes()));
                } catch (InvocationTargetException e) {
                    return "throws " + e.getCause().getClass().getSimpleName();
                }
            }
        }
        return "no such call";
    }

    private static Object[] values(List<String> told, Class<?>[] types) {
        Object[] values = new Object[types.length];
        for (int i = 0; i < types.length; i++) {
            if (types[i] == boolean.class) {
                values[i] = Boolean.valueOf(told.get(i));
            } else if (types[i] == long.class) {
                values[i] = Long.valueOf(told.get(i).replace("L", ""));
            } else {
                values[i] = Integer.valueOf(told.get(i));
            }
        }
        return values;
    }

    private static void codes(Readme readme) {
        List<String> due = List.of("OUTSIDE " + BoundDraws.OUTSIDE, "FULL " + BoundDraws.FULL,
                "NONE " + BoundDraws.NONE);
        CHECK.compare("codes", due.toString(), readme.codes().toString());
    }

    /** The least and the greatest number are taken, and those beside them are OUTSIDE. */
    private static void ranges(Readme readme) throws IllegalAccessException {
        for (Readme.Call call : readme.calls()) {
            List<Readme.Range> ranges = Readme.rangesOf(call);
            CHECK.compare(call.name() + " tells what it takes, if it can be OUTSIDE",
                    "" + call.refused().contains("OUTSIDE"), "" + !ranges.isEmpty());
            for (Readme.Range range : ranges) {
                int most = mostOf(range);
                takes(call, range.parameter(), range.least(), true);
                takes(call, range.parameter(), most, true);
                takes(call, range.parameter(), range.least() - 1, false);
                takes(call, range.parameter(), most + 1, false);
            }
        }
    }

    private static int mostOf(Readme.Range range) {
        String most = ORDINARY.getOrDefault(range.most(), range.most());
        return Integer.parseInt(most) - (range.lessOne() ? 1 : 0);
    }

    private static void takes(Readme.Call call, String parameter, int value, boolean want)
            throws IllegalAccessException {
        List<String> arguments = new ArrayList<>();
        for (String name : call.parameters()) {
            arguments.add(name.equals(parameter) ? "" + value : ORDINARY.get(name));
        }
        CHECK.compare(call.name() + arguments + " takes " + parameter, "" + want,
                "" + !answer(withAll(), call.name(), arguments).equals(OUTSIDE));
    }

    /** Nothing is refused for what is not there, and no answer is below 0. */
    private static BoundDraws withAll() {
        BoundDraws x = new BoundDraws();
        x.row(0, 5, 3);
        x.draw(1, 1, false);
        x.compare(1, 2);
        x.begin(1, 2, 1, 2);
        return x;
    }

    /** Each test that .ci/run finds is told, and no other. */
    private static void tests(Readme readme) {
        String[] files = new File("src/test/java").list((folder, name) -> name.endsWith("Test.java"));
        TreeSet<String> there = new TreeSet<>(Arrays.asList(files == null ? new String[0] : files));
        TreeSet<String> told = new TreeSet<>();
        for (String test : readme.tests()) {
            told.add(test + ".java");
        }
        CHECK.compare("tests", there.toString(), told.toString());
    }

    /** All calls in the document's order, each refused as its promise says, the first that counts first. */
    private static void calls(Readme readme, Document document) {
        List<String> due = new ArrayList<>();
        for (int promise = 2; promise <= Document.PROMISES; promise++) {
            due.add(document.callOf(promise) + " " + document.refusalsOf(promise));
        }
        List<String> told = new ArrayList<>();
        for (Readme.Call call : readme.calls()) {
            told.add(call.written() + " " + Document.refusalsIn(call.refused()));
        }
        CHECK.compare("calls and how they are refused", String.join("\n", due), String.join("\n", told));
    }

    private static void exceptions(Readme readme, Document document) {
        TreeSet<String> due = new TreeSet<>();
        for (int promise = 2; promise <= Document.PROMISES; promise++) {
            for (String refusal : document.refusalsOf(promise)) {
                if (refusal.endsWith("Exception")) {
                    due.add(refusal + " " + document.callOf(promise).replaceAll("\\w+ (\\w+)\\(.*", "$1"));
                }
            }
        }
        CHECK.compare("exceptions and what throws them", due.toString(),
                new TreeSet<>(readme.exceptions()).toString());
    }
}
