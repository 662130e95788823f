import java.io.IOException;
import java.lang.reflect.InvocationTargetException;
import java.net.URL;
import java.net.URLClassLoader;
import java.nio.file.DirectoryStream;
import java.nio.file.Files;
import java.nio.file.Path;
import java.util.List;
import java.util.regex.Matcher;
import java.util.regex.Pattern;
import javax.tools.JavaCompiler;
import javax.tools.ToolProvider;

/**
 * README.md's example of use, compiled and run as it stands there, but that each call with an answer
 * behind it is held against that answer; run from the root.
 */
public final class ReadmeTests {
    private static final Path README = Path.of("README.md");
    private static final Pattern CALL = Pattern.compile("( +)(desk\\.\\w+\\(.*\\));(.*)");
    private static final Pattern ANSWER = Pattern.compile(" +// (-?\\d+|true|false)(:.*)?");

    private static int held;

    private ReadmeTests() {
    }

    /** Called by the example, which another loader brings: hence public. */
    public static void hold(int line, String call, long got, long want) {
        held++;
        Checks.due("README.md's example, line " + line + ": " + call, got, want);
    }

    public static void hold(int line, String call, boolean got, boolean want) {
        hold(line, call, got ? 1L : 0L, want ? 1L : 0L);
    }

    private static void isTrue(String what, boolean so) {
        Checks.due(what, so, true);
    }

    /** The lines of the text's one block of Java. */
    private static List<String> example(String readme) {
        String[] parts = readme.split("```java\n", -1);
        isTrue("README.md has one block of Java", parts.length == 2);
        return List.of(parts[parts.length - 1].split("\n```", 2)[0].split("\n"));
    }

    /** The line with its call held against the answer behind it; one without an answer as it is. */
    private static String held(int number, String line) {
        Matcher call = CALL.matcher(line);
        if (!call.matches()) {
            return line;
        }
        Matcher answer = ANSWER.matcher(call.group(3));
        boolean isFeed = call.group(2).startsWith("desk.feed(");
        if (!answer.matches()) {
            isTrue("README.md's example, line " + number + " says what is answered", isFeed);
            return line;
        }
        String told = call.group(2);
        String quoted = told.replace("\\", "\\\\").replace("\"", "\\\"");
        String want = answer.group(1).matches("-?\\d+") ? answer.group(1) + "L" : answer.group(1);
        return call.group(1) + "ReadmeTests.hold(" + number + ", \"" + quoted + "\", " + told + ", "
                + want + ");";
    }

    private static String heldProgram(List<String> lines) {
        StringBuilder program = new StringBuilder();
        for (int i = 0; i < lines.size(); i++) {
            program.append(held(i + 1, lines.get(i))).append('\n');
        }
        return program.toString();
    }

    private static boolean compiled(Path into, String program) throws IOException {
        Path file = into.resolve("Example.java");
        Files.writeString(file, program);
        JavaCompiler javac = ToolProvider.getSystemJavaCompiler();
        return javac != null && javac.run(null, null, null, "-Xlint:all", "-Werror", "-proc:none", "-cp",
                System.getProperty("java.class.path"), "-d", into.toString(), file.toString()) == 0;
    }

    private static void run(Path from) throws IOException {
        URL[] places = {from.toUri().toURL()};
        try (URLClassLoader loader = new URLClassLoader(places, ReadmeTests.class.getClassLoader())) {
            loader.loadClass("Example").getMethod("main", String[].class)
                    .invoke(null, (Object) new String[0]);
        } catch (InvocationTargetException e) {
            isTrue("README.md's example threw " + e.getCause(), false);
        } catch (ReflectiveOperationException e) {
            isTrue("README.md's example can't be run: " + e, false);
        }
    }

    private static void deleteAll(Path directory) throws IOException {
        try (DirectoryStream<Path> files = Files.newDirectoryStream(directory)) {
            for (Path file : files) {
                Files.delete(file);
            }
        }
        Files.delete(directory);
    }

    private static void runExample(List<String> lines) throws IOException {
        String program = heldProgram(lines);
        int answers = program.split("ReadmeTests\\.hold\\(", -1).length - 1;
        isTrue("README.md's example has answers", answers > 0);
        Path directory = Files.createTempDirectory("readme");
        boolean stands = compiled(directory, program);
        isTrue("README.md's example compiles", stands);
        if (stands) {
            run(directory);
        }
        deleteAll(directory);
        Checks.due("README.md's example: answers held", held, answers);
    }

    /** README.md says how to run the tests, and names each of them. */
    private static void namesTests(String readme) throws IOException {
        isTrue("README.md names .ci/run", readme.contains(".ci/run"));
        try (DirectoryStream<Path> files =
                Files.newDirectoryStream(Path.of("src/test/java"), "*Tests.java")) {
            for (Path file : files) {
                String name = file.getFileName().toString().replace(".java", "");
                isTrue("README.md names " + name, readme.contains("`" + name + "`"));
            }
        }
    }

    public static void main(String[] args) throws IOException {
        String readme = Files.readString(README);
        runExample(example(readme));
        namesTests(readme);
        Checks.end();
    }
}
