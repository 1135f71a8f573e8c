/** All that can be asked of an object, and what it answers when it is used further, as one text. */
final class Sheet {
    private static final int[] THRESHOLDS = {1, 2, 200, 300, 301, 400, 500, 600, 800, 999, 1000};

    private interface Call {
        int of();
    }

    private Sheet() {
    }

    /** The object is not used any more behind this. */
    static String of(ProgressBilling x) {
        StringBuilder text = new StringBuilder();
        putSums(text, x);
        putLines(text, x);
        putApplications(text, x);
        putSteps(text, x);
        putFurtherUse(text, x);
        return text.toString();
    }

    private static void putSums(StringBuilder text, ProgressBilling x) {
        put(text, "progress", x::progress);
        put(text, "rate", x::rate);
        put(text, "nextAmount", x::nextAmount);
        put(text, "contractSum", x::contractSum);
        put(text, "paid", x::paid);
        put(text, "toCome", x::toCome);
    }

    private static void putLines(StringBuilder text, ProgressBilling x) {
        int lines = x.lines();
        put(text, "lines", () -> lines);
        for (int number = 0; number < lines; number++) {
            int line = number;
            put(text, "value", () -> x.value(line));
            put(text, "work", () -> x.work(line));
            put(text, "goods", () -> x.goods(line));
            put(text, "billed", () -> x.billed(line));
            put(text, "held", () -> x.held(line));
            put(text, "at the place", () -> x.lineByShare(line));
        }
    }

    private static void putApplications(StringBuilder text, ProgressBilling x) {
        int applications = x.applications();
        put(text, "applications", () -> applications);
        for (int number = 0; number < applications; number++) {
            int application = number;
            put(text, "state", () -> x.state(application));
            put(text, "amount", () -> x.amount(application));
            put(text, "billedBehind", () -> x.billedBehind(application));
            put(text, "heldBehind", () -> x.heldBehind(application));
        }
    }

    /**
     * Steps, and how it holds, can only be asked for by changing them. The steps are dropped: a setStep
     * that is refused here too would do again what it is to be found out about.
     */
    private static void putSteps(StringBuilder text, ProgressBilling x) {
        put(text, "held by the increase", () -> x.hold(true) ? 1 : 0);
        put(text, "nextAmount", x::nextAmount);
        put(text, "steps", x::steps);
        put(text, "the rate of 0", () -> x.setStep(0, 7));
        for (int threshold : THRESHOLDS) {
            put(text, "the rate of " + threshold, () -> x.dropStep(threshold));
        }
        put(text, "steps that are left", x::steps);
    }

    /** What a refused call left where nothing can ask for it comes out in what is entered next. */
    private static void putFurtherUse(StringBuilder text, ProgressBilling x) {
        put(text, "setStep", () -> x.setStep(1, 8));
        put(text, "addLine", () -> x.addLine(77));
        put(text, "split", () -> x.split(0, 3));
        int last = x.lines() - 1;
        put(text, "work of the last", () -> x.work(last));
        put(text, "goods of the last", () -> x.goods(last));
        put(text, "billed of the last", () -> x.billed(last));
        put(text, "held of the last", () -> x.held(last));
        put(text, "store", () -> x.store(last, 1));
        put(text, "close", x::close);
        put(text, "pay", () -> x.pay(x.applications() - 1));
        put(text, "waive", () -> x.waive(1));
        putSums(text, x);
    }

    private static void put(StringBuilder text, String name, Call call) {
        text.append(' ').append(name).append(' ');
        try {
            text.append(call.of());
        } catch (IndexOutOfBoundsException | IllegalStateException | IllegalArgumentException e) {
            text.append(e.getClass().getSimpleName());
        }
        text.append(';');
    }
}
