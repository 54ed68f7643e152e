import java.lang.reflect.InvocationTargetException;
import java.lang.reflect.Method;
import java.lang.reflect.Modifier;
import java.net.URL;
import java.net.URLClassLoader;
import java.nio.file.Files;
import java.nio.file.Path;
import java.util.List;
import java.util.regex.Matcher;
import java.util.regex.Pattern;
import java.util.stream.Stream;
import javax.tools.ToolProvider;

/** README.md says how to use the class: its example is run, and each answer must be the one that it tells. */
public final class ReadmeTest {
    private static final Path README = Path.of("README.md");
    private static final Path TESTS = Path.of("src/test/java");
    /** A line of the example: a call, and behind // what it answers or throws, if it is told. */
    private static final Pattern LINE = Pattern.compile("(.*;) +// (?:(answers|throws) (\\w+))?.*");
    private static final Checks CHECKS = new Checks();

    /** Public, as the example is loaded by another loader, to which this package is not its own. */
    public interface Line {
        long answer();
    }

    public static void main(String[] args) throws Exception {
        String readme = Files.readString(README);
        Path made = Files.createTempDirectory("readme");
        try {
            runExample(readme, made);
        } finally {
            remove(made);
        }
        tellsOfEachCall(readme);
        tellsOfEachTest(readme);
        CHECKS.end();
    }

    private static void runExample(String readme, Path made) throws Exception {
        CHECKS.sentence("README.md's example");
        Path source = made.resolve("Example.java");
        Files.writeString(source, exampleClass(readme));
        int failed = ToolProvider.getSystemJavaCompiler().run(null, null, null, "--release", "17", "-cp",
                System.getProperty("java.class.path"), "-d", made.toString(), source.toString());
        CHECKS.compare("it compiles", "0", String.valueOf(failed));
        if (failed == 0) {
            try (URLClassLoader loader = new URLClassLoader(new URL[] {made.toUri().toURL()})) {
                loader.loadClass("Example").getMethod("run", ReadmeTest.class).invoke(null, new ReadmeTest());
            } catch (InvocationTargetException e) {
                CHECKS.compare("a line that tells no exception", "its answer", e.getCause().toString());
            }
        }
    }

    private static String exampleClass(String readme) {
        int start = readme.indexOf("```java\n") + "```java\n".length();
        StringBuilder source = new StringBuilder("public class Example { public static void run(ReadmeTest due) {\n");
        int told = 0;
        for (String line : readme.substring(start, readme.indexOf("```", start)).split("\n")) {
            Matcher parts = LINE.matcher(line);
            boolean due = parts.matches() && parts.group(2) != null;
            told += due ? 1 : 0;
            source.append(due ? checked(parts) : line).append('\n');
        }
        CHECKS.compare("it tells answers", "true", String.valueOf(told > 0));
        return source.append("} }\n").toString();
    }

    private static String checked(Matcher line) {
        String call = line.group(1).replace(";", "");
        boolean answers = line.group(2).equals("answers");
        return "due.told(\"" + call + "\", \"" + (answers ? Long.decode(line.group(3)) : "throws." + line.group(3))
                + "\", () -> " + call + ");";
    }

    /** What the example calls for each of its lines. */
    public void told(String call, String want, Line line) {
        CHECKS.compare(call, want, Checks.told(line::answer));
    }

    private static void tellsOfEachCall(String readme) {
        CHECKS.sentence("README.md's table of calls");
        for (Method method : NameMover.class.getDeclaredMethods()) {
            if (Modifier.isPublic(method.getModifiers())) {
                CHECKS.compare(method.getName(), "true", String.valueOf(readme.contains("| `" + method.getName() + "(")));
            }
        }
    }

    private static void tellsOfEachTest(String readme) throws Exception {
        CHECKS.sentence("README.md's table of tests");
        try (Stream<Path> files = Files.list(TESTS)) {
            List<String> names = files.map(file -> file.getFileName().toString())
                    .filter(name -> name.endsWith("Test.java")).sorted().toList();
            for (String name : names) {
                String test = name.substring(0, name.length() - ".java".length());
                CHECKS.compare(test, "true", String.valueOf(readme.contains("| `" + test + "` |")));
            }
        }
    }

    private static void remove(Path directory) throws Exception {
        try (Stream<Path> files = Files.list(directory)) {
            for (Path file : files.toList()) {
                Files.delete(file);
            }
        }
        Files.delete(directory);
    }
}
