import java.util.function.Consumer;
import java.util.function.Supplier;

/**
 * "If several apply, the one that the throws clause names first is thrown": each pair and each three
 * of them that can apply at once. Checks.thrown sees to it that such a call changes nothing.
 */
final class ExceptionsTest {
    private static final int[] NO_LINES = {Integer.MIN_VALUE, -1, 16, Integer.MAX_VALUE};
    private static final int[] NO_SHARES = {Integer.MIN_VALUE, -1, 1001, Integer.MAX_VALUE};
    private static final int[] NO_VALUES = {Integer.MIN_VALUE, -1, 10000001, Integer.MAX_VALUE};
    private static final int[] NO_CENTS = {Integer.MIN_VALUE, -1, 0, 10000001, Integer.MAX_VALUE};

    private static final Checks CHECKS = new Checks("exceptions");

    public static void main(String[] args) {
        promise2RangeBeforeState();
        promise3LineBeforeRange();
        promise3RangeBeforeState();
        promise4LineBeforeRangeAndState();
        promise4RangeBeforeState();
        promise5LineBeforeRange();
        promise5RangeBeforeState();
        promise6LineBeforeRange();
        promise6RangeBeforeState();
        promise7LineBeforeRange();
        promise7RangeBeforeState();
        promise8RangeBeforeState();
        promise9RangeBeforeState();
        promise16ApplicationBeforeState();
        promise17ApplicationBeforeState();
        CHECKS.end();
    }

    private static void thrown(String what, Supplier<ProgressBilling> made, Class<? extends RuntimeException> due, Consumer<ProgressBilling> call) {
        CHECKS.thrown(what, made, due, call);
    }

    /** Out of range, and 16 lines. */
    private static void promise2RangeBeforeState() {
        for (int value : NO_VALUES) {
            thrown("addLine(" + value + ") with 16 lines", Contracts::withAllLines, Checks.OUT_OF_RANGE, x -> x.addLine(value));
        }
    }

    private static void promise3LineBeforeRange() {
        for (int line : NO_LINES) {
            for (int value : NO_VALUES) {
                thrown("changeValue(" + line + ", " + value + ")", Contracts::withAllLines, Checks.NO_SUCH, x -> x.changeValue(line, value));
            }
        }
        thrown("changeValue(0, -1) without lines", ProgressBilling::new, Checks.NO_SUCH, x -> x.changeValue(0, -1));
    }

    /** Out of range, and less than what the line has earned. */
    private static void promise3RangeBeforeState() {
        for (int value : NO_VALUES) {
            thrown("changeValue(0, " + value + ")", Contracts::underWay, Checks.OUT_OF_RANGE, x -> x.changeValue(0, value));
        }
    }

    /** No such line, out of the range of each line, and 16 lines. */
    private static void promise4LineBeforeRangeAndState() {
        for (int line : NO_LINES) {
            for (int part : NO_CENTS) {
                thrown("split(" + line + ", " + part + ") with 16 lines", Contracts::withAllLines, Checks.NO_SUCH, x -> x.split(line, part));
            }
            thrown("split(" + line + ", 1) with 16 lines", Contracts::withAllLines, Checks.NO_SUCH, x -> x.split(line, 1));
        }
        thrown("split(3, 0)", Contracts::underWay, Checks.NO_SUCH, x -> x.split(3, 0));
        thrown("split(3, 10000001)", Contracts::underWay, Checks.NO_SUCH, x -> x.split(3, 10000001));
        thrown("split(0, 0) without lines", ProgressBilling::new, Checks.NO_SUCH, x -> x.split(0, 0));
    }

    /** Out of range, and 16 lines; the value of line 0 is 1000, that of line 2 is 0. */
    private static void promise4RangeBeforeState() {
        for (int part : Numbers.and(NO_CENTS, 1000, 1001)) {
            thrown("split(0, " + part + ") with 16 lines", Contracts::withAllLines, Checks.OUT_OF_RANGE, x -> x.split(0, part));
        }
        for (int part : Numbers.and(NO_CENTS, 1)) {
            thrown("split(2, " + part + ") with 16 lines", Contracts::withAllLines, Checks.OUT_OF_RANGE, x -> x.split(2, part));
        }
    }

    private static void promise5LineBeforeRange() {
        for (int line : NO_LINES) {
            for (int share : NO_SHARES) {
                thrown("setWork(" + line + ", " + share + ")", Contracts::withAllLines, Checks.NO_SUCH, x -> x.setWork(line, share));
            }
        }
        thrown("setWork(0, -1) without lines", ProgressBilling::new, Checks.NO_SUCH, x -> x.setWork(0, -1));
    }

    /** Out of range, and the work would become less, or the line would have earned too much. */
    private static void promise5RangeBeforeState() {
        for (int share : NO_SHARES) {
            thrown("setWork(0, " + share + ")", Contracts::underWay, Checks.OUT_OF_RANGE, x -> x.setWork(0, share));
        }
    }

    private static void promise6LineBeforeRange() {
        for (int line : NO_LINES) {
            for (int cents : NO_CENTS) {
                thrown("store(" + line + ", " + cents + ")", Contracts::withAllLines, Checks.NO_SUCH, x -> x.store(line, cents));
            }
        }
        thrown("store(0, 0) without lines", ProgressBilling::new, Checks.NO_SUCH, x -> x.store(0, 0));
    }

    /** Out of range, and the line would have earned too much: of a value that is all built, and of the value 0. */
    private static void promise6RangeBeforeState() {
        for (int cents : NO_CENTS) {
            thrown("store(0, " + cents + ")", () -> Contracts.at(1000), Checks.OUT_OF_RANGE, x -> x.store(0, cents));
            thrown("store(2, " + cents + ")", Contracts::underWay, Checks.OUT_OF_RANGE, x -> x.store(2, cents));
        }
    }

    private static void promise7LineBeforeRange() {
        for (int line : NO_LINES) {
            for (int cents : NO_CENTS) {
                thrown("place(" + line + ", " + cents + ")", Contracts::withAllLines, Checks.NO_SUCH, x -> x.place(line, cents));
            }
        }
        thrown("place(0, 0) without lines", ProgressBilling::new, Checks.NO_SUCH, x -> x.place(0, 0));
    }

    /** Out of range, and not so many goods. */
    private static void promise7RangeBeforeState() {
        for (int cents : NO_CENTS) {
            thrown("place(0, " + cents + ") without goods", () -> Contracts.at(1000), Checks.OUT_OF_RANGE, x -> x.place(0, cents));
            thrown("place(0, " + cents + ")", Contracts::underWay, Checks.OUT_OF_RANGE, x -> x.place(0, cents));
        }
    }

    /** Out of range, and 6 steps without one of this threshold. */
    private static void promise8RangeBeforeState() {
        for (int number : NO_SHARES) {
            thrown("setStep(" + number + ", 5) with 6 steps", Contracts::withAllSteps, Checks.OUT_OF_RANGE, x -> x.setStep(number, 5));
            thrown("setStep(2, " + number + ") with 6 steps", Contracts::withAllSteps, Checks.OUT_OF_RANGE, x -> x.setStep(2, number));
            thrown("setStep(" + number + ", -1) with 6 steps", Contracts::withAllSteps, Checks.OUT_OF_RANGE, x -> x.setStep(number, -1));
        }
    }

    /** Out of range, and so no step either. */
    private static void promise9RangeBeforeState() {
        for (int threshold : NO_SHARES) {
            thrown("dropStep(" + threshold + ")", Contracts::underWay, Checks.OUT_OF_RANGE, x -> x.dropStep(threshold));
        }
    }

    /** Not there; and so not CLOSED, with waivers before it that are not given. */
    private static void promise16ApplicationBeforeState() {
        for (int application : Numbers.and(NO_LINES, 3)) {
            thrown("pay(" + application + ")", Contracts::underWay, Checks.NO_SUCH, x -> x.pay(application));
        }
        thrown("pay(60) of 60", Contracts::withAllApplications, Checks.NO_SUCH, x -> x.pay(60));
    }

    private static void promise17ApplicationBeforeState() {
        for (int application : Numbers.and(NO_LINES, 3)) {
            thrown("waive(" + application + ")", Contracts::underWay, Checks.NO_SUCH, x -> x.waive(application));
        }
        thrown("waive(60) of 60", Contracts::withAllApplications, Checks.NO_SUCH, x -> x.waive(60));
    }
}
