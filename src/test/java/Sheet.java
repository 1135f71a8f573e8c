/** All that can be asked of an object, as one text. An object is not used any more behind it. */
final class Sheet {
    private static final int[] THRESHOLDS = {0, 1, 2, 300, 500, 999, 1000};

    private Sheet() {
    }

    static String of(ProgressBilling x) {
        StringBuilder text = new StringBuilder();
        put(text, "progress", x.progress());
        put(text, "rate", x.rate());
        put(text, "nextAmount", x.nextAmount());
        put(text, "contractSum", x.contractSum());
        put(text, "paid", x.paid());
        put(text, "toCome", x.toCome());
        putLines(text, x);
        putApplications(text, x);
        put(text, "held by increase", x.hold(false) ? 1 : 0);
        putSteps(text, x);
        return text.toString();
    }

    private static void putLines(StringBuilder text, ProgressBilling x) {
        int lines = x.lines();
        put(text, "lines", lines);
        for (int line = 0; line < lines; line++) {
            put(text, "value", x.value(line));
            put(text, "work", x.work(line));
            put(text, "goods", x.goods(line));
            put(text, "billed", x.billed(line));
            put(text, "held", x.held(line));
        }
    }

    private static void putApplications(StringBuilder text, ProgressBilling x) {
        int applications = x.applications();
        put(text, "applications", applications);
        for (int application = 0; application < applications; application++) {
            put(text, "state", x.state(application));
            put(text, "amount", x.amount(application));
            put(text, "billedBehind", x.billedBehind(application));
            put(text, "heldBehind", x.heldBehind(application));
        }
    }

    /** Steps can only be asked for by changing them, so this comes last. */
    private static void putSteps(StringBuilder text, ProgressBilling x) {
        put(text, "steps", x.steps());
        for (int threshold : THRESHOLDS) {
            put(text, "threshold", threshold);
            try {
                put(text, "rate", x.setStep(threshold, 7));
            } catch (IllegalStateException e) {
                text.append(" none and no room;");
            }
        }
    }

    private static void put(StringBuilder text, String name, int number) {
        text.append(' ').append(name).append(' ').append(number).append(';');
    }
}
