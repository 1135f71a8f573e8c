import java.lang.reflect.Constructor;
import java.lang.reflect.Field;
import java.lang.reflect.Method;
import java.lang.reflect.Modifier;
import java.util.ArrayList;
import java.util.List;
import java.util.TreeSet;

/** The public face, the constants, and what a new object is (promise 1). */
final class FaceTest {
    private static final String LINE = " throws IndexOutOfBoundsException";
    private static final String RANGE_STATE = " throws IllegalArgumentException IllegalStateException";
    private static final String ALL = " throws IndexOutOfBoundsException IllegalArgumentException IllegalStateException";
    private static final String LINE_STATE = " throws IndexOutOfBoundsException IllegalStateException";
    private static final String[] METHODS = {
        "int addLine int" + RANGE_STATE,
        "int changeValue int int" + ALL,
        "int split int int" + ALL,
        "int setWork int int" + ALL,
        "int store int int" + ALL,
        "int place int int" + ALL,
        "int setStep int int" + RANGE_STATE,
        "int dropStep int" + RANGE_STATE,
        "boolean hold boolean",
        "int steps",
        "int progress",
        "int rate",
        "int close throws IllegalStateException",
        "int nextAmount",
        "int pay int" + LINE_STATE,
        "int waive int" + LINE_STATE,
        "int applications",
        "int state int" + LINE,
        "int amount int" + LINE,
        "int billedBehind int" + LINE,
        "int heldBehind int" + LINE,
        "int lines",
        "int value int" + LINE,
        "int work int" + LINE,
        "int goods int" + LINE,
        "int billed int" + LINE,
        "int held int" + LINE,
        "int lineByShare int" + LINE,
        "int contractSum",
        "int paid",
        "int toCome",
    };

    private static final Checks CHECKS = new Checks("face");

    public static void main(String[] args) {
        constants();
        methods();
        membersThatAreHidden();
        promise1ANewObject();
        promise1ObjectsShareNothing();
        CHECKS.end();
    }

    private static void constants() {
        CHECKS.same("NONE", ProgressBilling.NONE, -1);
        CHECKS.same("CLOSED", ProgressBilling.CLOSED, 0);
        CHECKS.same("PAID", ProgressBilling.PAID, 1);
        CHECKS.same("WAIVED", ProgressBilling.WAIVED, 2);
    }

    private static void methods() {
        TreeSet<String> found = new TreeSet<>();
        for (Method method : ProgressBilling.class.getDeclaredMethods()) {
            if (!Modifier.isPrivate(method.getModifiers())) {
                found.add(told(method));
            }
        }
        CHECKS.same("the methods", String.join("\n", found), String.join("\n", new TreeSet<>(List.of(METHODS))));
        Constructor<?>[] constructors = ProgressBilling.class.getDeclaredConstructors();
        CHECKS.same("how many constructors", constructors.length, 1);
        CHECKS.same("the constructor", constructors[0].toString(), "public ProgressBilling()");
        CHECKS.same("the class", Modifier.toString(ProgressBilling.class.getModifiers()), "public final");
    }

    private static String told(Method method) {
        List<String> exceptions = new ArrayList<>();
        for (Class<?> exception : method.getExceptionTypes()) {
            exceptions.add(exception.getSimpleName());
        }
        StringBuilder text = new StringBuilder();
        text.append(method.getReturnType()).append(' ').append(method.getName());
        for (Class<?> parameter : method.getParameterTypes()) {
            text.append(' ').append(parameter);
        }
        if (!exceptions.isEmpty()) {
            text.append(" throws ").append(String.join(" ", exceptions));
        }
        if (!Modifier.toString(method.getModifiers()).equals("public")) {
            text.append(" (but not just public)");
        }
        return text.toString();
    }

    /** LANGUAGE.md, rules 1 and 5: nothing else can be seen, and no static field can change. */
    private static void membersThatAreHidden() {
        List<String> open = List.of("NONE", "CLOSED", "PAID", "WAIVED");
        for (Field field : ProgressBilling.class.getDeclaredFields()) {
            String modifiers = Modifier.toString(field.getModifiers());
            if (open.contains(field.getName())) {
                CHECKS.same(field.getName(), modifiers, "public static final");
            } else {
                CHECKS.same(field.getName() + " is private", Modifier.isPrivate(field.getModifiers()), true);
                CHECKS.same(field.getName() + " is no static that changes", modifiers.equals("private static"), false);
            }
        }
        TreeSet<String> names = new TreeSet<>();
        for (String method : METHODS) {
            names.add(method.split(" ")[1]);
        }
        for (Method method : ProgressBilling.class.getDeclaredMethods()) {
            boolean both = Modifier.isPrivate(method.getModifiers()) && names.contains(method.getName());
            CHECKS.same(method.getName() + " is public and private", both, false);
        }
    }

    private static void promise1ANewObject() {
        ProgressBilling x = new ProgressBilling();
        CHECKS.same("lines()", x.lines(), 0);
        CHECKS.same("applications()", x.applications(), 0);
        CHECKS.same("steps()", x.steps(), 1);
        CHECKS.same("progress()", x.progress(), 0);
        CHECKS.same("rate()", x.rate(), 100);
        CHECKS.same("nextAmount()", x.nextAmount(), 0);
        CHECKS.same("contractSum()", x.contractSum(), 0);
        CHECKS.same("paid()", x.paid(), 0);
        CHECKS.same("toCome()", x.toCome(), 0);
        CHECKS.same("hold(true)", x.hold(true), false);
        CHECKS.same("the rate of the one step", x.setStep(0, 5), 100);
        for (int number : new int[] {-1, 0, 1}) {
            CHECKS.thrown("value(" + number + ")", ProgressBilling::new, Checks.NO_SUCH, y -> y.value(number));
            CHECKS.thrown("state(" + number + ")", ProgressBilling::new, Checks.NO_SUCH, y -> y.state(number));
            CHECKS.thrown("lineByShare(" + number + ")", ProgressBilling::new, Checks.NO_SUCH, y -> y.lineByShare(number));
        }
    }

    private static void promise1ObjectsShareNothing() {
        ProgressBilling used = new ProgressBilling();
        used.addLine(1000);
        used.setWork(0, 500);
        used.setStep(0, 300);
        used.setStep(500, 20);
        used.hold(true);
        used.close();
        used.pay(0);
        ProgressBilling x = new ProgressBilling();
        CHECKS.same("lines() of another", x.lines(), 0);
        CHECKS.same("applications() of another", x.applications(), 0);
        CHECKS.same("steps() of another", x.steps(), 1);
        CHECKS.same("rate() of another", x.rate(), 100);
        CHECKS.same("hold(false) of another", x.hold(false), false);
        CHECKS.same("work(0) of the used one", used.work(0), 500);
    }
}
