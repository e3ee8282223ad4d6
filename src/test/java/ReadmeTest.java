import java.io.ByteArrayOutputStream;
import java.io.IOException;
import java.io.PrintStream;
import java.lang.reflect.Method;
import java.net.URL;
import java.net.URLClassLoader;
import java.nio.charset.StandardCharsets;
import java.nio.file.Files;
import java.nio.file.Path;
import java.util.List;
import java.util.regex.Matcher;
import java.util.regex.Pattern;
import javax.tools.ToolProvider;

/** The example of README.md compiles with the class and prints what README.md says that it prints. */
public final class ReadmeTest {
    public static void main(String[] args) throws Exception {
        // CI tells where README.md stands; by hand the test is run from the project's root.
        String readme = Files.readString(Path.of(System.getProperty("readme", "README.md")));
        String example = only(readme, "java");
        String says = only(readme, "text");
        usesTheWholeFace(example);
        tellsHowToRunTheTests(readme);
        Path work = Files.createTempDirectory("readme");
        try {
            if (compiles(example, work)) {
                compareLines(List.of(says.split("\n")), List.of(printed(work).split("\n")));
            }
        } finally {
            delete(work);
        }
        Check.end();
    }

    /** The one part of the text that is fenced as being in this language. */
    private static String only(String readme, String language) {
        Matcher m = Pattern.compile("(?ms)^```" + language + "\n(.*?)^```$").matcher(readme);
        String found = m.find() ? m.group(1) : "";
        Check.holds("README.md has a part in " + language, !found.isBlank());
        Check.holds("README.md has no second part in " + language, !m.find());
        return found;
    }

    private static void usesTheWholeFace(String example) {
        Check.holds("the example makes an object", example.contains("new NameForge()"));
        for (Method m : NameForge.class.getDeclaredMethods()) {
            if (java.lang.reflect.Modifier.isPublic(m.getModifiers())) {
                Check.holds("the example calls " + m.getName(), example.contains("forge." + m.getName() + "("));
            }
        }
    }

    private static void tellsHowToRunTheTests(String readme) {
        Check.holds("README.md tells of .ci/run", readme.contains("\n    .ci/run\n"));
    }

    private static boolean compiles(String example, Path work) throws IOException {
        Path source = work.resolve("Example.java");
        Files.writeString(source, example);
        int exit = ToolProvider.getSystemJavaCompiler().run(null, System.out, System.out, "-encoding", "UTF-8",
            "-cp", System.getProperty("java.class.path"), "-d", work.toString(), source.toString());
        Check.same("exit code of javac for the example", exit, 0);
        return exit == 0;
    }

    private static String printed(Path work) throws Exception {
        ByteArrayOutputStream bytes = new ByteArrayOutputStream();
        PrintStream before = System.out;
        System.setOut(new PrintStream(bytes, true, StandardCharsets.UTF_8));
        try (URLClassLoader loader = new URLClassLoader(new URL[] {work.toUri().toURL()})) {
            Method main = loader.loadClass("Example").getMethod("main", String[].class);
            main.invoke(null, (Object) new String[0]);
        } finally {
            System.setOut(before);
        }
        return bytes.toString(StandardCharsets.UTF_8).replace("\r\n", "\n");
    }

    private static void compareLines(List<String> says, List<String> prints) {
        Check.same("lines that the example prints", prints.size(), says.size());
        for (int k = 0; k < Math.min(says.size(), prints.size()); k++) {
            Check.holds("the example prints '" + prints.get(k) + "', README.md says '" + says.get(k) + "'",
                prints.get(k).equals(says.get(k)));
        }
    }

    private static void delete(Path work) throws IOException {
        try (var inside = Files.list(work)) {
            for (Path p : inside.toList()) {
                Files.delete(p);
            }
        }
        Files.delete(work);
    }
}
