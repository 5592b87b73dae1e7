import java.io.ByteArrayOutputStream;
import java.io.File;
import java.io.IOException;
import java.lang.reflect.Method;
import java.lang.reflect.Modifier;
import java.nio.file.Files;
import java.nio.file.Path;
import java.util.HashMap;
import java.util.Map;
import java.util.TreeMap;
import java.util.TreeSet;
import java.util.regex.Matcher;
import java.util.regex.Pattern;
import javax.tools.ToolProvider;

/** What README.md says: its example, its table of calls, the tests it names; run from the project's directory. */
public final class ReadmeTest {
    private static final Checks CHECKS = new Checks("ReadmeTest");
    private static final Path README = Path.of("README.md");
    private static final File TESTS = new File("src/test/java");
    /** A call of the example, with the name that its answer gets, if any, and the answer behind the call. */
    private static final Pattern CALL =
        Pattern.compile("(?:\\w+ (\\w+) = )?academy\\.(\\w+)\\(([^)]*)\\); +// ([^ :]+)(: .+)?");

    public static void main(String[] args) throws IOException {
        String readme = Files.readString(README);
        String example = part(readme, "```java\n", "```");
        exampleAnswersAsWritten(example);
        exampleCompiles(example);
        tableOfCalls(part(readme, "## How to use it", "## How to run its tests"));
        tableOfTests(part(readme, "## How to run its tests", "`Run`"));
        CHECKS.finish();
    }

    private static String part(String text, String begin, String end) {
        int from = text.indexOf(begin) + begin.length();
        return text.substring(from, text.indexOf(end, from));
    }

    private static void exampleAnswersAsWritten(String example) {
        Run run = new Run(CHECKS, "the example of README.md");
        Map<String, String> values = new HashMap<>();
        String[] lines = example.split("\n");
        CHECKS.due("the example's first line", lines[0], "ClubAcademy academy = new ClubAcademy();");
        for (int i = 1; i < lines.length; i++) {
            Matcher call = CALL.matcher(lines[i]);
            CHECKS.due("the example's line is a call: " + lines[i], call.matches(), true);
            if (call.matches()) {
                StringBuilder row = new StringBuilder(call.group(2));
                for (String argument : call.group(3).split(", ")) {
                    row.append(' ').append(values.getOrDefault(argument, argument));
                }
                run.rows(row + " = " + call.group(4));
                values.put(call.group(1), call.group(4));
            }
        }
    }

    private static void exampleCompiles(String example) throws IOException {
        Path folder = Files.createTempDirectory("readme");
        Path file = folder.resolve("Example.java");
        Files.writeString(file, "final class Example { static void run() {\n" + example + "} }\n");
        ByteArrayOutputStream said = new ByteArrayOutputStream();
        ToolProvider.getSystemJavaCompiler().run(null, said, said,
            "-proc:none", "-cp", System.getProperty("java.class.path"), "-d", folder.toString(), file.toString());
        CHECKS.due("what javac says of the example", said.toString(), "");
        for (File made : folder.toFile().listFiles()) {
            Files.delete(made.toPath());
        }
        Files.delete(folder);
    }

    /** Each call stands once, with as many arguments and the same throws clause as in the class. */
    private static void tableOfCalls(String use) {
        Map<String, String> written = new TreeMap<>();
        Matcher row = Pattern.compile("(?m)^\\| `(\\w+)\\(([^)]*)\\)` \\| [^|]+ \\|([^|]*)\\|$").matcher(use);
        while (row.find()) {
            int arguments = row.group(2).isEmpty() ? 0 : row.group(2).split(", ").length;
            String thrown = row.group(3).replace("`", "").strip();
            String before = written.put(row.group(1), arguments + " arguments; throws " + thrown);
            CHECKS.due(row.group(1) + " stands once", before == null, true);
        }
        Map<String, String> built = new TreeMap<>();
        for (Method method : ClubAcademy.class.getDeclaredMethods()) {
            if (Modifier.isPublic(method.getModifiers())) {
                StringBuilder thrown = new StringBuilder();
                for (Class<?> exception : method.getExceptionTypes()) {
                    thrown.append(thrown.length() == 0 ? "" : ", ").append(exception.getSimpleName());
                }
                built.put(method.getName(), method.getParameterCount() + " arguments; throws " + thrown);
            }
        }
        CHECKS.due("the table of calls", written.toString(), built.toString());
    }

    private static void tableOfTests(String page) {
        TreeSet<String> written = new TreeSet<>();
        Matcher row = Pattern.compile("(?m)^\\| (\\w+Test) \\|").matcher(page);
        while (row.find()) {
            written.add(row.group(1) + ".java");
        }
        TreeSet<String> there = new TreeSet<>();
        for (String file : TESTS.list()) {
            if (file.endsWith("Test.java")) {
                there.add(file);
            }
        }
        CHECKS.due("the table of tests", written.toString(), there.toString());
    }
}
