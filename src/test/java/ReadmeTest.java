import java.io.IOException;
import java.lang.reflect.Method;
import java.lang.reflect.Modifier;
import java.net.URL;
import java.net.URLClassLoader;
import java.nio.file.Files;
import java.nio.file.Path;
import java.util.ArrayList;
import java.util.List;
import java.util.TreeSet;
import java.util.regex.Matcher;
import java.util.regex.Pattern;
import javax.tools.ToolProvider;

/**
 * README.md: its example is compiled and run as it stands there, and each call answers what stands
 * behind it; its table tells of each method the exceptions that are in its throws clause. To be run in
 * the project's directory.
 */
final class ReadmeTest {
    /** A call, what it is kept as (or nothing), and what it is due to answer. */
    private static final Pattern CALL = Pattern.compile("(?:(int|boolean) (\\w+) = )?(contract\\.\\w+\\(.*?\\)); +// (throws \\w+|NONE|CLOSED|PAID|WAIVED|-?\\d+|true|false)\\b.*");
    private static final Pattern ROW = Pattern.compile("\\| `(\\w+)\\(.*?\\)` \\|(.*)\\|(.*)\\|(.*)\\|");
    private static final String MADE = "ProgressBilling contract = new ProgressBilling();";

    private static final Checks CHECKS = new Checks("readme");

    public static void main(String[] args) throws Exception {
        List<String> readme = Files.readAllLines(Path.of("README.md"));
        theExample(readme);
        theExceptions(readme);
        CHECKS.end();
    }

    // ---- the example

    private static void theExample(List<String> readme) throws Exception {
        List<String> calls = new ArrayList<>();
        List<String> due = new ArrayList<>();
        StringBuilder body = new StringBuilder();
        for (String line : example(readme)) {
            Matcher call = CALL.matcher(line);
            if (call.matches()) {
                calls.add(line);
                due.add(meant(call.group(4)));
                body.append(recorded(call));
            } else {
                CHECKS.same("a line of the example that is no call with an answer", line, MADE);
                body.append(line).append('\n');
            }
        }
        CHECKS.same("the example has calls", calls.size() > 10, true);
        List<?> answers = run(body.toString());
        for (int call = 0; call < calls.size(); call++) {
            CHECKS.same(calls.get(call), (String) answers.get(call), due.get(call));
        }
    }

    private static List<String> example(List<String> readme) {
        int from = readme.indexOf("```java") + 1;
        int to = from;
        while (!readme.get(to).equals("```")) {
            to++;
        }
        return readme.subList(from, to);
    }

    private static String meant(String due) {
        switch (due) {
            case "NONE": return Integer.toString(ProgressBilling.NONE);
            case "CLOSED": return Integer.toString(ProgressBilling.CLOSED);
            case "PAID": return Integer.toString(ProgressBilling.PAID);
            case "WAIVED": return Integer.toString(ProgressBilling.WAIVED);
            default: return due;
        }
    }

    private static String recorded(Matcher call) {
        String expression = call.group(3);
        if (call.group(2) != null) {
            return call.group(1) + " " + call.group(2) + " = " + expression + ";\nanswers.add(\"\" + " + call.group(2) + ");\n";
        }
        return "try { answers.add(\"\" + " + expression + "); }\n"
            + "catch (RuntimeException e) { answers.add(\"throws \" + e.getClass().getSimpleName()); }\n";
    }

    /** The answers of the calls in their order, as the program that has this body puts them into its list. */
    private static List<?> run(String body) throws Exception {
        Path directory = Files.createTempDirectory("readme");
        Path source = directory.resolve("Example.java");
        Files.writeString(source, "public final class Example {\n"
            + "public static java.util.List<String> answers() {\n"
            + "java.util.List<String> answers = new java.util.ArrayList<>();\n" + body + "return answers;\n}\n}\n");
        int exit = ToolProvider.getSystemJavaCompiler().run(null, null, null, "--release", "17", "-proc:none",
            "-cp", System.getProperty("java.class.path"), "-d", directory.toString(), source.toString());
        CHECKS.same("compiling the example", exit, 0);
        try (URLClassLoader loader = new URLClassLoader(new URL[] {directory.toUri().toURL()}, ReadmeTest.class.getClassLoader())) {
            return (List<?>) loader.loadClass("Example").getMethod("answers").invoke(null);
        } finally {
            delete(directory);
        }
    }

    private static void delete(Path directory) throws IOException {
        for (String name : new String[] {"Example.class", "Example.java", ""}) {
            Files.deleteIfExists(directory.resolve(name));
        }
    }

    // ---- the table of the exceptions

    private static void theExceptions(List<String> readme) {
        TreeSet<String> told = new TreeSet<>();
        for (String line : readme) {
            Matcher row = ROW.matcher(line);
            if (row.matches()) {
                told.add(row.group(1) + told(row.group(2), "IndexOutOfBoundsException")
                    + told(row.group(3), "IllegalArgumentException") + told(row.group(4), "IllegalStateException"));
            }
        }
        TreeSet<String> due = new TreeSet<>();
        for (Method method : ProgressBilling.class.getDeclaredMethods()) {
            if (Modifier.isPublic(method.getModifiers()) && method.getExceptionTypes().length > 0) {
                due.add(clause(method));
            }
        }
        CHECKS.same("the table of the exceptions", String.join("\n", told), String.join("\n", due));
    }

    private static String told(String cell, String exception) {
        return cell.isBlank() ? "" : " " + exception;
    }

    private static String clause(Method method) {
        StringBuilder text = new StringBuilder(method.getName());
        for (Class<?> exception : method.getExceptionTypes()) {
            text.append(' ').append(exception.getSimpleName());
        }
        return text.toString();
    }
}
