import java.io.IOException;
import java.nio.file.Files;
import java.nio.file.Path;
import java.util.TreeSet;

/**
 * The class keeps to the rules of LANGUAGE.md that Language can read off its source, and Language finds
 * what breaks them. To be run in the project's directory.
 */
final class LanguageTest {
    private static final Path SOURCE = Path.of("src/main/java/ProgressBilling.java");

    private static final Checks CHECKS = new Checks("language");

    public static void main(String[] args) throws IOException {
        CHECKS.same("the faults of the class", String.join("\n", Language.faults("ProgressBilling", Files.readString(SOURCE))), "");
        nothingIsFoundInWhatIsAllowed();
        classesAndFields();
        calls();
        exceptions();
        loopsAndTexts();
        whatNeedsMoreThanOneRule();
        CHECKS.end();
    }

    /** Members of a class One that break this rule, and no other. */
    private static void breaks(int rule, String... members) throws IOException {
        TreeSet<String> rules = rulesBroken("final class One {\n" + String.join("\n", members) + "\n}\n");
        CHECKS.same("the rules that are broken by " + String.join(" ", members), rules.toString(), "[rule " + rule + "]");
    }

    /** A source that breaks this rule; it may break others too. */
    private static void breaksAmongOthers(int rule, String source) throws IOException {
        CHECKS.same("rule " + rule + " is broken by " + source, rulesBroken(source).contains("rule " + rule), true);
    }

    private static TreeSet<String> rulesBroken(String source) throws IOException {
        TreeSet<String> rules = new TreeSet<>();
        for (String fault : Language.faults("One", source)) {
            rules.add(fault.substring(0, fault.indexOf(':')));
        }
        return rules;
    }

    private static void nothingIsFoundInWhatIsAllowed() throws IOException {
        String source = "final class One {\n"
            + "static final int MOST = 3;\n"
            + "private final int[] column = new int[MOST];\n"
            + "One() { column[0] = 1; }\n"
            + "int most(long number) throws IllegalStateException {\n"
            + "if (number > 3) { throw new IllegalStateException(\"more than 3\"); }\n"
            + "int most = 0;\n"
            + "for (int at = 0; at < MOST; at++) { most += Math.max(most, column[at]); }\n"
            + "while (most > 7 && column[0] == 1) { most--; }\n"
            + "return half(most) + (int) number; }\n"
            + "private static int half(int of) { return Math.floorDiv(of, 2); }\n"
            + "}\n";
        CHECKS.same("the faults of what is allowed", String.join("\n", Language.faults("One", source)), "");
    }

    private static void classesAndFields() throws IOException {
        breaks(2, "static final class Two { }");
        breaks(3, "private Object any;");
        breaks(3, "private int[][][] cube;");
        breaks(4, "private static final String SIGN = \"\u00e9\";");
        breaks(5, "private static int changes;");
        breaks(5, "private static final int[] TEN = {1, 2};", "static { TEN[0] = 3; }");
        breaks(11, "private int " + numbered(21) + ";");
        breaks(11, "int seven(int " + numbered(8).replace(", ", ", int ") + ") { return 7; }");
        breaks(11, "int lines() {", "\n".repeat(60), "return 7; }");
    }

    private static String numbered(int count) {
        StringBuilder names = new StringBuilder("n0");
        for (int number = 1; number < count; number++) {
            names.append(", n").append(number);
        }
        return names.toString();
    }

    private static void calls() throws IOException {
        breaks(4, "long now() { return System.nanoTime(); }");
        breaks(4, "double any() { return Math.random(); }");
        breaks(4, "int sum(int of) { return Math.addExact(of, 1); }");
        breaks(4, "int length(String text) { return text.strip().length(); }");
        breaks(8, "int itself(int of) { return of > 0 ? itself(of - 1) : 0; }");
        breaks(8, "int one(int of) { return two(of); }", "int two(int of) { return of > 0 ? one(of - 1) : 0; }");
        StringBuilder deep = new StringBuilder("int call8() { return 1; }\n");
        for (int call = 7; call >= 0; call--) {
            deep.append("int call" + call + "() { return call" + (call + 1) + "(); }\n");
        }
        breaks(11, deep.toString());
        breaks(12, "One() { begin(); }", "private void begin() { }");
        breaks(12, "boolean made() { return new One() == null; }");
    }

    private static void exceptions() throws IOException {
        breaks(6, "One() { throw new IllegalStateException(); }");
        breaks(6, "int thrown() { throw new NullPointerException(); }");
        breaks(6, "int thrown(String text) { throw new IllegalStateException(text); }");
        breaks(6, "int caught(int of) { try { return 1 / of; } finally { of++; } }");
        breaks(6, "int sure(int of) { assert of > 0; return of; }");
        breaks(6, "int alone(int of) { synchronized (this) { return of; } }");
        breaks(6, "synchronized int alone(int of) { return of; }");
        breaks(6, "public String toString() { return \"one\"; }");
        breaks(6, "boolean same(String one, String other) { return one == other; }");
    }

    private static void loopsAndTexts() throws IOException {
        breaks(9, "int ever(int of) { while (true) { of++; if (of == 3) { return of; } } }");
        breaks(9, "int ever(int of) { for (;;) { of++; if (of == 3) { return of; } } }");
        breaks(9, "int ever(int of) { boolean on = true; do { of++; on = of == 3; } while (on); return of; }");
        breaks(10, "String joined(int of) { return \"number \" + of; }");
        breaks(10, "String joined(String of) { of += of; return of; }");
    }

    private static void whatNeedsMoreThanOneRule() throws IOException {
        breaksAmongOthers(1, "package one; final class One { }");
        breaksAmongOthers(2, "final class One { Runnable run = () -> { }; }");
        breaksAmongOthers(2, "final class One { Runnable run = System::gc; }");
        breaksAmongOthers(2, "final class One { boolean same(int of) { class Two { } return of == 2; } }");
        breaksAmongOthers(4, "import java.util.List; final class One { }");
        breaksAmongOthers(6, "final class One { boolean isText(Object any) { return any instanceof String; } }");
        breaksAmongOthers(6, "final class One { String text(Object any) { return (String) any; } }");
        breaksAmongOthers(6, "final class One { int thrown(RuntimeException e) { throw e; } }");
    }
}
