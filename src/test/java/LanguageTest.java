import java.io.IOException;
import java.lang.reflect.Field;
import java.lang.reflect.Method;
import java.lang.reflect.Modifier;
import java.nio.file.Files;
import java.nio.file.Path;
import java.util.ArrayList;
import java.util.List;
import java.util.Map;
import java.util.Set;
import java.util.TreeMap;
import java.util.regex.Matcher;
import java.util.regex.Pattern;

/** The rules of LANGUAGE.md that can be seen in the text of the class or by reflection. */
public final class LanguageTest {
    private static final Set<String> IMPORTS = Set.of("java.util.ArrayList", "java.util.Arrays",
        "java.util.Iterator", "java.util.List", "java.util.NoSuchElementException");
    private static final Set<String> CALLS = Set.of("Arrays.fill", "Arrays.copyOf", "Arrays.copyOfRange",
        "Integer.bitCount", "Integer.compare", "Integer.max", "Integer.min", "Math.max", "Math.min",
        "Math.abs", "Math.floorDiv", "Math.floorMod", "System.arraycopy");
    private static final Set<String> EXCEPTIONS = Set.of("IllegalStateException", "IllegalArgumentException",
        "IndexOutOfBoundsException", "ArithmeticException", "UnsupportedOperationException",
        "NoSuchElementException", "RuntimeException");
    private static final int MOST_LINES_OF_A_METHOD = 60;
    private static final int DEEPEST_CALLS = 8;
    /** What {@link #depth} answers for a method that comes to itself again. */
    private static final int NO_END = 1000;

    public static void main(String[] args) throws IOException {
        // CI tells where the class stands; by hand the test is run from the project's root.
        Path source = Path.of(System.getProperty("source", "src/main/java/NameForge.java"));
        String whole = Files.readString(source);
        String code = withoutTextsAndComments(whole);
        rule1And2(code);
        rule4Library(code);
        rule5StaticFields(code);
        rule6Exceptions(whole, code);
        rule8And11Calls(code);
        rule9Loops(code);
        rule10Texts(whole);
        rule11Sizes(code);
        rule12NoCallMakesObjects(code);
        rule12Constructors(code);
        Check.end();
    }

    private static String withoutTextsAndComments(String whole) {
        return whole.replaceAll("(?s)/\\*.*?\\*/", "").replaceAll("//[^\n]*", "").replaceAll("\"[^\"\n]*\"", "\"\"");
    }

    private static List<String> found(String code, String pattern) {
        List<String> all = new ArrayList<>();
        Matcher m = Pattern.compile(pattern).matcher(code);
        while (m.find()) {
            all.add(m.group(m.groupCount()));
        }
        return all;
    }

    private static void none(String code, String pattern) {
        Check.holds("nothing like " + pattern, found(code, pattern).isEmpty());
    }

    private static void only(String what, List<String> got, Set<String> allowed) {
        for (String one : got) {
            Check.holds(what + " " + one + " is allowed", allowed.contains(one));
        }
    }

    private static void rule1And2(String code) {
        none(code, "(?m)^package ");
        none(code, "->");
        none(code, "::");
        Check.same("classes at the top", found(code, "(?m)^\\S.*\\bclass (\\w+)").size(), 1);
    }

    private static void rule4Library(String code) {
        only("import", found(code, "(?m)^import ([^;]+);"), IMPORTS);
        only("call", found(code, "\\b((?:Arrays|Integer|Long|Math|System|List|Objects)\\.\\w+)"), CALLS);
        none(code, "\\bjava\\.(?!util\\.(ArrayList|Arrays|Iterator|List|NoSuchElementException);)");
        none(code, "\\b(double|float|Map|Set|Thread|Random|Object|Exception)\\b");
    }

    private static void rule5StaticFields(String code) {
        none(code, "static\\s*\\{");
        for (Class<?> c : classes()) {
            for (Field f : c.getDeclaredFields()) {
                int is = f.getModifiers();
                Check.holds(c.getSimpleName() + "." + f.getName() + " is final if static",
                    !Modifier.isStatic(is) || Modifier.isFinal(is));
            }
        }
    }

    private static void rule6Exceptions(String whole, String code) {
        only("throw", found(code, "\\bthrow\\s+new\\s+(\\w+)"), EXCEPTIONS);
        int thrown = found(code, "\\bthrow\\b").size();
        int written = found(whole, "\\bthrow new \\w+\\((?:\"[^\"\n]*\")?\\);").size();
        Check.same("each throw is of a new one with a written text", written, thrown);
        none(code, "\\b(try|catch|finally|synchronized|assert|equals|hashCode|toString)\\b");
    }

    /** The bodies of methods and constructors by their names; of one name all are taken together. */
    private static Map<String, String> bodies(String code) {
        Map<String, String> all = new TreeMap<>();
        Matcher m = Pattern.compile("(?ms)^( {4}| {8})(?=\\w)[\\w\\[\\] ]*?(\\w+)\\([^(){};]*\\)[^(){};]*\\{(.*?)^\\1\\}")
            .matcher(code);
        while (m.find()) {
            all.merge(m.group(2), m.group(3), String::concat);
        }
        return all;
    }

    private static void rule8And11Calls(String code) {
        Map<String, String> bodies = bodies(code);
        for (Class<?> c : classes()) {
            for (Method m : c.getDeclaredMethods()) {
                Check.holds(m.getName() + " is found in the text", bodies.containsKey(m.getName()));
            }
        }
        for (String name : bodies.keySet()) {
            Check.holds(name + " goes at most eight calls deep", depth(bodies, name, 1) <= DEEPEST_CALLS);
        }
    }

    private static int depth(Map<String, String> bodies, String name, int above) {
        if (above > NO_END) {
            return NO_END;
        }
        int deepest = 0;
        for (String called : Set.copyOf(found(bodies.get(name), "(\\w+)\\("))) {
            if (bodies.containsKey(called) && deepest < NO_END) {
                deepest = Math.max(deepest, depth(bodies, called, above + 1));
            }
        }
        return Math.min(NO_END, deepest + 1);
    }

    private static void rule10Texts(String whole) {
        none(whole, "\"\\s*\\+|\\+\\s*\"");
    }

    private static void rule9Loops(String code) {
        none(code, "\\bwhile\\b");
        for (String head : found(code, "\\bfor \\(([^{]*)\\) \\{")) {
            Check.holds("for (" + head + ") has a bound", head.matches("int .*; .*[<>].*;.*(\\+\\+|--)"));
        }
    }

    private static void rule11Sizes(String code) {
        Check.holds("at most twelve classes", classes().size() <= 12);
        for (Class<?> c : classes()) {
            int fields = 0;
            for (Field f : c.getDeclaredFields()) {
                fields += Modifier.isStatic(f.getModifiers()) ? 0 : 1;
            }
            Check.holds(c.getSimpleName() + " has at most twenty fields", fields <= 20);
            for (Method m : c.getDeclaredMethods()) {
                Check.holds(m.getName() + " has at most seven parameters", m.getParameterCount() <= 7);
            }
        }
        for (String body : found(code, "(?ms)^( {4}| {8})(?=\\S)[^\n}]*\\)[^;{}]*\\{(.*?)^\\1\\}")) {
            Check.holds("a method of " + body.lines().count() + " lines", body.lines().count() <= MOST_LINES_OF_A_METHOD);
        }
    }

    /** Rows are made where a field is declared, objects in the constructor of the face. */
    private static void rule12NoCallMakesObjects(String code) {
        for (String line : code.split("\n")) {
            boolean isFree = !line.matches(".*\\bnew\\b.*")
                || line.matches(" +throw new .*")
                || line.matches(" {8}(private )?final (int|boolean)\\[.* = new .*")
                || line.matches(" {8}\\w+ = new [A-Z]\\w+\\([a-z, ]*\\);");
            Check.holds("no call makes an object:" + line, isFree);
        }
    }

    private static void rule12Constructors(String code) {
        Map<String, String> bodies = bodies(code);
        for (Class<?> c : classes()) {
            for (String line : bodies.getOrDefault(c.getSimpleName(), "").split("\n")) {
                Check.holds(c.getSimpleName() + "() only keeps what it is given or makes:" + line, line.isBlank()
                    || line.matches(" +(this\\.)?\\w+ = (\\w+|new [A-Z]\\w+\\([a-z, ]*\\));"));
            }
        }
    }

    private static List<Class<?>> classes() {
        List<Class<?>> all = new ArrayList<>(List.of(NameForge.class.getDeclaredClasses()));
        all.add(NameForge.class);
        return all;
    }
}
