/**
 * Long runs of calls against the model. The same numbers come each time: they are counted out of the
 * run's number, so a wrong answer is told by its run and call, and comes again.
 */
final class RandomRunsTest {
    private static final int RUNS = 3000;
    private static final int CALLS = 512;
    private static final int[] EDGES = {Integer.MIN_VALUE, -1001, -1, 0, 1, 2, 15, 16, 59, 60, 61, 1000, 1001, 10000000, 10000001, Integer.MAX_VALUE};
    private static final String[] CHANGES = {
        "addLine", "changeValue", "split", "setWork", "setWork", "setWork", "store", "store", "place", "place",
        "setStep", "dropStep", "hold", "close", "close", "pay", "pay", "waive", "waive",
    };
    private static final String[] QUESTIONS = {
        "steps", "progress", "rate", "nextAmount", "applications", "state", "amount", "billedBehind", "heldBehind",
        "lines", "value", "work", "goods", "billed", "held", "lineByShare", "contractSum", "paid", "toCome",
    };

    private static final Checks CHECKS = new Checks("random runs");

    private long seed;

    public static void main(String[] args) {
        for (int run = 0; run < RUNS; run++) {
            new RandomRunsTest().run(run);
        }
        CHECKS.end();
    }

    private void run(int run) {
        seed = 7919L * run + 17;
        ProgressBilling x = new ProgressBilling();
        Model model = new Model();
        int questions = 1 + run % 3;
        // In the runs with more of these the lines stay few, so that their shares and parts stay ordinary.
        int closingsForLines = run % 8;
        int least = next(4) == 0 ? 0 : 1;
        int greatest = new int[] {3, 20, 1000, 10000000}[next(4)];
        for (int call = 0; call < CALLS; call++) {
            String name = next(4) < questions ? QUESTIONS[next(QUESTIONS.length)] : CHANGES[next(CHANGES.length)];
            if (call < 3) {
                name = "addLine";
            } else if (next(8) < closingsForLines && (name.equals("addLine") || name.equals("split"))) {
                name = "close";
            }
            int a = first(name, model, least, greatest);
            int b = second(name, model, a, greatest);
            String due = model.answer(name, a, b);
            CHECKS.same("run " + run + ", call " + call + ": " + name + "(" + a + ", " + b + ")", answer(x, name, a, b), due);
        }
    }

    private int first(String name, Model model, int least, int greatest) {
        if (next(40) == 0) {
            return EDGES[next(EDGES.length)];
        }
        switch (name) {
            case "addLine": return least + next(greatest);
            case "setStep": case "dropStep": return next(3) == 0 ? next(1001) : 125 * next(9);
            case "pay": case "waive": return firstThatIsNotWaived(model) + (next(6) == 0 ? next(3) - 1 : 0);
            case "state": case "amount": case "billedBehind": case "heldBehind": return next(known(model, "applications", 0) + 1);
            default: return next(known(model, "lines", 0) + (next(10) == 0 ? 2 : 1));
        }
    }

    private int second(String name, Model model, int line, int greatest) {
        if (next(40) == 0) {
            return EDGES[next(EDGES.length)];
        }
        boolean none = line < 0 || line >= known(model, "lines", 0);
        int value = none ? 10 : known(model, "value", line);
        switch (name) {
            case "changeValue": return next(2) == 0 ? next(greatest + 1) : Math.max(0, value + next(7) - 3);
            case "split": return next(value + 2);
            case "setWork": return none ? next(1002) : Math.min(1000, (int) (1000L * known(model, "work", line) / Math.max(1, value)) + next(120));
            case "store": return 1 + next(value / 8 + 2);
            case "place": return 1 + next(none ? 5 : known(model, "goods", line) + 1);
            case "setStep": return next(4) == 0 ? next(1002) : 50 * next(21);
            default: return 0;
        }
    }

    private static int firstThatIsNotWaived(Model model) {
        int application = 0;
        while (application < known(model, "applications", 0) && known(model, "state", application) == ProgressBilling.WAIVED) {
            application++;
        }
        return application;
    }

    /** Asked of the model, so that the object itself is called just as often as the document promises. */
    private static int known(Model model, String question, int a) {
        return Integer.parseInt(model.answer(question, a, 0));
    }

    private static String answer(ProgressBilling x, String name, int a, int b) {
        try {
            return Integer.toString(called(x, name, a, b));
        } catch (RuntimeException e) {
            return "throws." + e.getClass().getSimpleName();
        }
    }

    private static int called(ProgressBilling x, String name, int a, int b) {
        switch (name) {
            case "addLine": return x.addLine(a);
            case "changeValue": return x.changeValue(a, b);
            case "split": return x.split(a, b);
            case "setWork": return x.setWork(a, b);
            case "store": return x.store(a, b);
            case "place": return x.place(a, b);
            case "setStep": return x.setStep(a, b);
            case "dropStep": return x.dropStep(a);
            case "hold": return x.hold(a % 2 != 0) ? 1 : 0;
            case "close": return x.close();
            case "pay": return x.pay(a);
            case "waive": return x.waive(a);
            default: return asked(x, name, a);
        }
    }

    private static int asked(ProgressBilling x, String name, int a) {
        switch (name) {
            case "steps": return x.steps();
            case "progress": return x.progress();
            case "rate": return x.rate();
            case "nextAmount": return x.nextAmount();
            case "applications": return x.applications();
            case "state": return x.state(a);
            case "amount": return x.amount(a);
            case "billedBehind": return x.billedBehind(a);
            case "heldBehind": return x.heldBehind(a);
            case "lines": return x.lines();
            case "value": return x.value(a);
            case "work": return x.work(a);
            case "goods": return x.goods(a);
            case "billed": return x.billed(a);
            case "held": return x.held(a);
            case "lineByShare": return x.lineByShare(a);
            case "contractSum": return x.contractSum();
            case "paid": return x.paid();
            case "toCome": return x.toCome();
            default: throw new IllegalArgumentException(name);
        }
    }

    /** A number from 0 to bound - 1. */
    private int next(int bound) {
        seed = seed * 6364136223846793005L + 1442695040888963407L;
        return (int) Math.floorMod(seed >>> 33, (long) bound);
    }
}
