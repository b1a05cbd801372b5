import java.io.IOException;
import java.lang.reflect.Constructor;
import java.lang.reflect.Field;
import java.lang.reflect.Method;
import java.lang.reflect.Modifier;
import java.nio.file.Files;
import java.nio.file.Path;
import java.util.ArrayList;
import java.util.Arrays;
import java.util.HashSet;
import java.util.List;
import java.util.Set;
import java.util.regex.Matcher;
import java.util.regex.Pattern;

/** The public face is the document's and no more; and what of LANGUAGE.md a compiled class shows. */
final class FaceTest {
    private static final Check CHECK = new Check("FaceTest");

    private static final String[] METHODS = {
        "public long BoundDraws.above(int,int,int,int,int,int)",
        "public int BoundDraws.odds(int,int,int,int,int,int,int)",
        "public int BoundDraws.bound(int,int,int,int,int) throws java.lang.IllegalArgumentException",
        "public int BoundDraws.row(int,int,int)",
        "public int BoundDraws.drop()",
        "public long BoundDraws.turned(boolean,int)",
        "public int BoundDraws.wins(int,int)",
        "public long BoundDraws.even(int,int)",
        "public int BoundDraws.draw(long,int,boolean)",
        "public long BoundDraws.drawn(int,int) throws java.lang.IndexOutOfBoundsException",
        "public long BoundDraws.percentile(int,int,int)",
        "public int BoundDraws.share() throws java.lang.ArithmeticException",
        "public int BoundDraws.compare(int,int)",
        "public long BoundDraws.raised(int,int,int)",
        "public int BoundDraws.forget()",
        "public int BoundDraws.begin(int,int,int,int) throws java.lang.IllegalArgumentException",
        "public int BoundDraws.hit(boolean)",
        "public int BoundDraws.test(int)",
        "public int BoundDraws.count(int)",
        "public int BoundDraws.clear()",
    };

    private static final String[] CONSTANTS = {
        "public static final int BoundDraws.OUTSIDE",
        "public static final int BoundDraws.FULL",
        "public static final int BoundDraws.NONE",
    };

    public static void main(String[] args) throws IOException {
        theClass();
        theMembersThatCanBeSeen();
        theNestedClasses();
        asTheDocumentWritesIt();
        CHECK.end();
    }

    private static void same(String what, String[] want, List<String> got) {
        List<String> sorted = new ArrayList<>(Arrays.asList(want));
        sorted.sort(null);
        got.sort(null);
        CHECK.compare(what, String.join("\n", sorted), String.join("\n", got));
    }

    private static void theClass() {
        CHECK.compare("the class", "public final", Modifier.toString(BoundDraws.class.getModifiers()));
        CHECK.compare("its package", "", BoundDraws.class.getPackageName());
        CHECK.compare("its parent", "java.lang.Object", BoundDraws.class.getSuperclass().getName());
    }

    private static void theMembersThatCanBeSeen() {
        List<String> methods = new ArrayList<>();
        for (Method method : BoundDraws.class.getDeclaredMethods()) {
            if (!Modifier.isPrivate(method.getModifiers())) {
                methods.add(method.toString());
            }
        }
        same("methods", METHODS, methods);
        List<String> constants = new ArrayList<>();
        for (Field field : BoundDraws.class.getDeclaredFields()) {
            if (!Modifier.isPrivate(field.getModifiers())) {
                constants.add(field.toString());
            }
        }
        same("fields", CONSTANTS, constants);
        List<String> constructors = new ArrayList<>();
        for (Constructor<?> constructor : BoundDraws.class.getDeclaredConstructors()) {
            constructors.add(constructor.toString());
        }
        same("constructors", new String[] {"public BoundDraws()"}, constructors);
    }

    /** The names of parameters, and what stands ahead of the calls, are seen in the source alone. */
    private static void asTheDocumentWritesIt() throws IOException {
        Document document = new Document();
        if (!document.isThere()) {
            return;
        }
        List<String> source = Files.readAllLines(Path.of("src", "main", "java", "BoundDraws.java"));
        source.replaceAll(String::trim);
        for (String line : document.face()) {
            String due = line.endsWith(");") || line.contains(") throws ") ? line.replace(";", " {") : line;
            CHECK.due("lines of the class that are: " + due, 1, () -> source.stream().filter(due::equals).count());
        }
        CHECK.compare("what stands ahead of the calls", String.join("\n", document.headings()),
                String.join("\n", headings(source)));
    }

    private static List<String> headings(List<String> source) {
        List<String> headings = new ArrayList<>();
        Pattern call = Pattern.compile("public (?:int|long) (\\w+)\\(.*");
        for (String line : source) {
            Matcher named = call.matcher(line);
            if (line.startsWith("// ---- ")) {
                headings.add(line.substring("// ---- ".length()) + ":");
            } else if (named.matches()) {
                int last = headings.size() - 1;
                String ahead = last < 0 ? "nothing:" : headings.remove(last);
                headings.add(ahead + (ahead.endsWith(":") ? " " : ", ") + named.group(1));
            }
        }
        return headings;
    }

    private static void theNestedClasses() {
        Set<String> face = new HashSet<>();
        for (Method method : BoundDraws.class.getDeclaredMethods()) {
            if (Modifier.isPublic(method.getModifiers())) {
                face.add(method.getName());
            }
        }
        Class<?>[] nested = BoundDraws.class.getDeclaredClasses();
        CHECK.due("at most twelve classes", 1, () -> nested.length + 1 <= 12 ? 1 : 0);
        for (Class<?> inside : nested) {
            CHECK.due(inside + " is static", 1, () -> Modifier.isStatic(inside.getModifiers()) ? 1 : 0);
            for (Method method : inside.getDeclaredMethods()) {
                CHECK.due(method + " has a name of its own", 0, () -> face.contains(method.getName()) ? 1 : 0);
                CHECK.due(method + " has seven parameters at most", 1,
                        () -> method.getParameterCount() <= 7 ? 1 : 0);
            }
            for (Field field : inside.getDeclaredFields()) {
                int is = field.getModifiers();
                CHECK.due(field + " is no static state", 1,
                        () -> !Modifier.isStatic(is) || Modifier.isFinal(is) ? 1 : 0);
            }
        }
    }
}
