import java.util.function.Consumer;
import java.util.function.Supplier;

/** Counts the wrong answers of one test class and tells each of them. */
final class Checks {
    static final Class<? extends RuntimeException> NO_SUCH = IndexOutOfBoundsException.class;
    static final Class<? extends RuntimeException> OUT_OF_RANGE = IllegalArgumentException.class;
    static final Class<? extends RuntimeException> REFUSED = IllegalStateException.class;

    /** Numbers that are out of the range of every argument. */
    static final int[] FAR_OUT = {Integer.MIN_VALUE, Integer.MIN_VALUE + 1, -1000, Integer.MAX_VALUE - 1, Integer.MAX_VALUE};

    private final String subject;
    private int made;
    private int wrong;

    Checks(String subject) {
        this.subject = subject;
    }

    void same(String what, long answer, long due) {
        same(what, Long.toString(answer), Long.toString(due));
    }

    void same(String what, boolean answer, boolean due) {
        same(what, Boolean.toString(answer), Boolean.toString(due));
    }

    void same(String what, String answer, String due) {
        made++;
        if (!answer.equals(due)) {
            wrong++;
            System.out.println(subject + ": " + what + " answered " + answer + ", due is " + due);
        }
    }

    /** The call throws what is due, on an object that is made as it says, and changes nothing. */
    void thrown(String what, Supplier<ProgressBilling> made, Class<? extends RuntimeException> due, Consumer<ProgressBilling> call) {
        ProgressBilling called = made.get();
        String answer = "nothing";
        try {
            call.accept(called);
        } catch (RuntimeException e) {
            answer = e.getClass().getName();
        }
        same(what + " throws", answer, due.getName());
        same("behind " + what + " that throws, all", Sheet.of(called), Sheet.of(made.get()));
    }

    /** Prints what came out and ends the program with exit code 1 if an answer was wrong. */
    void end() {
        System.out.println(subject + ": " + made + " answers looked at, " + wrong + " wrong");
        if (wrong > 0 || made == 0) {
            System.exit(1);
        }
    }
}
