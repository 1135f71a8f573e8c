import java.util.function.IntFunction;
import java.util.function.IntUnaryOperator;
import java.util.function.Supplier;

/**
 * Each argument: one below its range, its first value, its last value, one above it, and far out. A
 * line, a place or an application: below 0, the first one, the last one, and the number of them.
 */
final class ArgumentsTest {
    private static final Checks CHECKS = new Checks("arguments");

    public static void main(String[] args) {
        promise2Value();
        promise3Value();
        promise4PartOfAGreatValue();
        promise4PartOfTheValue2();
        promise4PartOfTheValues1And0();
        promise5Share();
        promise6Cents();
        promise7Cents();
        promise8Threshold();
        promise8Rate();
        promise9Threshold();
        promise3Line();
        promise4Line();
        promise4LineWhenThereAre16();
        promise5Line();
        promise6Line();
        promise7Line();
        promise16Application();
        promise17Application();
        promise19Application();
        promise20Application();
        promise21Application();
        promise22Application();
        promise24Line();
        promise25Line();
        promise26Line();
        promise27Line();
        promise28Line();
        promise29Place();
        CHECKS.end();
    }

    private static Tried tried(String name, Supplier<ProgressBilling> made, Tried.Call call) {
        return new Tried(CHECKS, name, made, call);
    }

    /** All that lies outside the range from first to last. */
    private static int[] outside(int first, int last) {
        return Numbers.and(Checks.FAR_OUT, first - 1, last + 1);
    }

    // ---- ranges

    /** value: 0 to 10000000. */
    private static void promise2Value() {
        tried("addLine(#)", Contracts::underWay, ProgressBilling::addLine)
            .answers(0, 3).answers(1, 3).answers(9999999, 3).answers(10000000, 3)
            .throwsAt(Checks.OUT_OF_RANGE, outside(0, 10000000));
        tried("addLine(#) on a new object", ProgressBilling::new, ProgressBilling::addLine)
            .answers(0, 0).answers(10000000, 0)
            .throwsAt(Checks.OUT_OF_RANGE, outside(0, 10000000));
    }

    /** value: its new value, 0 to 10000000. */
    private static void promise3Value() {
        tried("changeValue(3, #)", () -> Contracts.withFreshLine(500), (x, value) -> x.changeValue(3, value))
            .answers(0, -500).answers(1, -499).answers(9999999, 9999499).answers(10000000, 9999500)
            .throwsAt(Checks.OUT_OF_RANGE, outside(0, 10000000));
        tried("changeValue(2, #) of the value 0", Contracts::underWay, (x, value) -> x.changeValue(2, value))
            .answers(0, 0).answers(10000000, 10000000)
            .throwsAt(Checks.OUT_OF_RANGE, outside(0, 10000000));
        tried("changeValue(3, #) of the value 10000000", () -> Contracts.withFreshLine(10000000), (x, value) -> x.changeValue(3, value))
            .answers(0, -10000000).answers(10000000, 0)
            .throwsAt(Checks.OUT_OF_RANGE, outside(0, 10000000));
    }

    /** part: 1 to 1 less than the value of the line. */
    private static void promise4PartOfAGreatValue() {
        tried("split(0, #) of the value 1000", Contracts::underWay, (x, part) -> x.split(0, part))
            .answers(1, 3).answers(2, 3).answers(998, 3).answers(999, 3)
            .throwsAt(Checks.OUT_OF_RANGE, outside(1, 999))
            .throwsAt(Checks.OUT_OF_RANGE, -1, 1001, 10000000);
        tried("split(3, #) of the value 10000000", () -> Contracts.withFreshLine(10000000), (x, part) -> x.split(3, part))
            .answers(1, 4).answers(9999999, 4)
            .throwsAt(Checks.OUT_OF_RANGE, outside(1, 9999999));
    }

    private static void promise4PartOfTheValue2() {
        tried("split(3, #) of the value 2", () -> Contracts.withFreshLine(2), (x, part) -> x.split(3, part))
            .answers(1, 4)
            .throwsAt(Checks.OUT_OF_RANGE, outside(1, 1));
    }

    /** 1 less than these values is less than 1, so there is no part that goes. */
    private static void promise4PartOfTheValues1And0() {
        tried("split(3, #) of the value 1", () -> Contracts.withFreshLine(1), (x, part) -> x.split(3, part))
            .throwsAt(Checks.OUT_OF_RANGE, outside(0, 1))
            .throwsAt(Checks.OUT_OF_RANGE, 0, 1);
        tried("split(2, #) of the value 0", Contracts::underWay, (x, part) -> x.split(2, part))
            .throwsAt(Checks.OUT_OF_RANGE, outside(-1, 0))
            .throwsAt(Checks.OUT_OF_RANGE, -1, 0);
    }

    /** share: 0 to 1000. */
    private static void promise5Share() {
        tried("setWork(3, #)", () -> Contracts.withFreshLine(10000000), (x, share) -> x.setWork(3, share))
            .answers(0, 0).answers(1, 10000).answers(999, 9990000).answers(1000, 10000000)
            .throwsAt(Checks.OUT_OF_RANGE, outside(0, 1000));
    }

    /** cents: 1 to 10000000. */
    private static void promise6Cents() {
        tried("store(3, #)", () -> Contracts.withFreshLine(10000000), (x, cents) -> x.store(3, cents))
            .answers(1, 1).answers(2, 2).answers(9999999, 9999999).answers(10000000, 10000000)
            .throwsAt(Checks.OUT_OF_RANGE, outside(1, 10000000))
            .throwsAt(Checks.OUT_OF_RANGE, -1);
    }

    private static ProgressBilling withAllGoods() {
        ProgressBilling x = Contracts.withFreshLine(10000000);
        x.store(3, 10000000);
        return x;
    }

    /** cents: 1 to 10000000. */
    private static void promise7Cents() {
        tried("place(3, #)", ArgumentsTest::withAllGoods, (x, cents) -> x.place(3, cents))
            .answers(1, 1).answers(2, 2).answers(9999999, 9999999).answers(10000000, 10000000)
            .throwsAt(Checks.OUT_OF_RANGE, outside(1, 10000000))
            .throwsAt(Checks.OUT_OF_RANGE, -1);
    }

    /** threshold: 0 to 1000. */
    private static void promise8Threshold() {
        tried("setStep(#, 5)", Contracts::underWay, (x, threshold) -> x.setStep(threshold, 5))
            .answers(0, 100).answers(1, ProgressBilling.NONE).answers(999, ProgressBilling.NONE).answers(1000, ProgressBilling.NONE)
            .throwsAt(Checks.OUT_OF_RANGE, outside(0, 1000));
    }

    /** rate: 0 to 1000. */
    private static void promise8Rate() {
        tried("setStep(300, #), which is there", Contracts::underWay, (x, rate) -> x.setStep(300, rate))
            .answers(0, 80).answers(1, 80).answers(999, 80).answers(1000, 80)
            .throwsAt(Checks.OUT_OF_RANGE, outside(0, 1000));
        tried("setStep(301, #), which is not there", Contracts::underWay, (x, rate) -> x.setStep(301, rate))
            .answers(0, ProgressBilling.NONE).answers(1000, ProgressBilling.NONE)
            .throwsAt(Checks.OUT_OF_RANGE, outside(0, 1000));
        tried("setStep(0, #), the first step", Contracts::underWay, (x, rate) -> x.setStep(0, rate))
            .answers(0, 100).answers(1000, 100)
            .throwsAt(Checks.OUT_OF_RANGE, outside(0, 1000));
    }

    /** threshold: 1 to 1000; so the first step can't be dropped, though it is there. */
    private static void promise9Threshold() {
        tried("dropStep(#)", Contracts::withAllSteps, ProgressBilling::dropStep)
            .answers(1, 90).answers(300, 80).answers(999, 5).answers(1000, 0)
            .throwsAt(Checks.OUT_OF_RANGE, outside(1, 1000))
            .throwsAt(Checks.OUT_OF_RANGE, -1);
        tried("dropStep(#) with the first step alone", ProgressBilling::new, ProgressBilling::dropStep)
            .throwsAt(Checks.OUT_OF_RANGE, outside(1, 1000));
    }

    // ---- lines and places

    /** With 0, 1, 2, 15 and 16 lines; the amounts of each line are its own (Contracts.unequalLines). */
    private static void line(String name, int most, Tried.Call call, IntFunction<IntUnaryOperator> due) {
        for (int lines : new int[] {0, 1, 2, 15, 16}) {
            if (lines > most) {
                continue;
            }
            Tried tried = tried(name + " of " + lines, () -> Contracts.unequalLines(lines), call);
            tried.throwsAt(Checks.NO_SUCH, outside(0, lines - 1)).throwsAt(Checks.NO_SUCH, 16, 17);
            for (int line = 0; line < lines; line++) {
                tried.answers(line, due.apply(lines).applyAsInt(line));
            }
        }
    }

    private static void promise3Line() {
        line("changeValue(#, 3000)", 16, (x, line) -> x.changeValue(line, 3000), lines -> line -> 1000 - line);
    }

    private static void promise4Line() {
        line("split(#, 1)", 15, (x, line) -> x.split(line, 1), lines -> line -> lines);
        line("the value that split(#, 5) leaves", 15, (x, line) -> {
            x.split(line, 5);
            return x.value(line);
        }, lines -> line -> 1995 + line);
    }

    private static void promise4LineWhenThereAre16() {
        tried("split(#, 1) of 16", () -> Contracts.unequalLines(16), (x, line) -> x.split(line, 1))
            .throwsAt(Checks.NO_SUCH, outside(0, 15))
            .throwsAt(Checks.REFUSED, 0, 15);
    }

    private static void promise5Line() {
        line("setWork(#, 500)", 16, (x, line) -> x.setWork(line, 500), lines -> line -> (2001 + line) / 2 - (10 + line));
    }

    private static void promise6Line() {
        line("store(#, 7)", 16, (x, line) -> x.store(line, 7), lines -> line -> 102 + line);
    }

    private static void promise7Line() {
        line("place(#, 3)", 16, (x, line) -> x.place(line, 3), lines -> line -> 13 + line);
    }

    private static void promise24Line() {
        line("value(#)", 16, ProgressBilling::value, lines -> line -> 2000 + line);
    }

    private static void promise25Line() {
        line("work(#)", 16, ProgressBilling::work, lines -> line -> 10 + line);
    }

    private static void promise26Line() {
        line("goods(#)", 16, ProgressBilling::goods, lines -> line -> 95 + line);
    }

    private static void promise27Line() {
        line("billed(#)", 16, ProgressBilling::billed, lines -> line -> 100 + line);
    }

    private static void promise28Line() {
        line("held(#)", 16, ProgressBilling::held, lines -> line -> (101 + line) / 2);
    }

    /** The work of these lines, divided by their value, grows with their numbers. */
    private static void promise29Place() {
        line("lineByShare(#)", 16, ProgressBilling::lineByShare, lines -> place -> lines - 1 - place);
    }

    // ---- applications

    /** With 0, 1, 2, 59 and 60 applications; each has amounts of its own (Contracts.closed). */
    private static void application(String name, Tried.Call call, IntUnaryOperator due) {
        for (int applications : new int[] {0, 1, 2, 59, 60}) {
            Tried tried = tried(name + " of " + applications, () -> Contracts.closed(applications), call);
            tried.throwsAt(Checks.NO_SUCH, outside(0, applications - 1)).throwsAt(Checks.NO_SUCH, 60, 61);
            for (int application = 0; application < applications; application++) {
                tried.answers(application, due.applyAsInt(application));
            }
        }
    }

    /** The ones before are paid and waived here, as these calls ask for it. */
    private static void inTurn(ProgressBilling x, int application) {
        for (int before = 0; before < application && application < x.applications(); before++) {
            x.pay(before);
            x.waive(before);
        }
    }

    private static void promise16Application() {
        application("pay(#)", (x, application) -> {
            inTurn(x, application);
            return x.pay(application);
        }, application -> 90 * (application + 1));
    }

    private static void promise17Application() {
        application("waive(#)", (x, application) -> {
            inTurn(x, application);
            if (application >= 0 && application < x.applications()) {
                x.pay(application);
            }
            return x.waive(application);
        }, application -> application + 1);
    }

    private static void promise19Application() {
        application("state(#)", ProgressBilling::state, application -> ProgressBilling.CLOSED);
        for (int applications : new int[] {1, 60}) {
            int last = applications - 1;
            tried("state(#), the last of " + applications, () -> Contracts.waived(applications, last), ProgressBilling::state)
                .answers(last, ProgressBilling.CLOSED)
                .answers(0, last > 0 ? ProgressBilling.WAIVED : ProgressBilling.CLOSED);
        }
    }

    private static void promise20Application() {
        application("amount(#)", ProgressBilling::amount, application -> 90 * (application + 1));
    }

    private static void promise21Application() {
        application("billedBehind(#)", ProgressBilling::billedBehind, application -> 50 * (application + 1) * (application + 2));
    }

    private static void promise22Application() {
        application("heldBehind(#)", ProgressBilling::heldBehind, application -> 5 * (application + 1) * (application + 2));
    }
}
