import java.util.function.Supplier;

/** A call with one number that is tried, each time on a contract that is made anew. */
final class Tried {
    interface Call {
        int of(ProgressBilling x, int number);
    }

    private final Checks checks;
    private final String name;
    private final Supplier<ProgressBilling> made;
    private final Call call;

    /** In the name, # stands for the number. */
    Tried(Checks checks, String name, Supplier<ProgressBilling> made, Call call) {
        this.checks = checks;
        this.name = name;
        this.made = made;
        this.call = call;
    }

    Tried answers(int number, int due) {
        String answer;
        try {
            answer = Integer.toString(call.of(made.get(), number));
        } catch (RuntimeException e) {
            answer = "throws." + e.getClass().getName();
        }
        checks.same(named(number), answer, Integer.toString(due));
        return this;
    }

    Tried throwsAt(Class<? extends RuntimeException> due, int... numbers) {
        for (int number : numbers) {
            checks.thrown(named(number), made, due, x -> call.of(x, number));
        }
        return this;
    }

    private String named(int number) {
        return name.replace("#", Integer.toString(number));
    }
}
