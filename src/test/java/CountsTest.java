/** None, one, and as many as there can be: lines, steps, applications, calls; and sums and values of 0. */
final class CountsTest {
    private static final Checks CHECKS = new Checks("counts");

    public static void main(String[] args) {
        noLines();
        noLinesButSteps();
        oneLine();
        sixteenLines();
        sixteenLinesGoOn();
        oneStep();
        sixSteps();
        aStepThatIsThereAlready();
        theRateOfEachStepAtItsEdges();
        theStepThatIsLeftTakesTheRate();
        noApplications();
        oneApplication();
        sixtyApplications();
        sixtyApplicationsGoOn();
        sixtyPaymentsAndWaivers();
        aContractSumOfZero();
        aContractSumThatBecomesZero();
        aLineWithTheValueZero();
        aLineWithTheValueZeroAmongOthers();
        aLineThatIsClosedBeforeAnotherIsAdded();
        fiveHundredAndTwelveCalls();
        CHECKS.end();
    }

    // ---- lines

    private static void noLines() {
        ProgressBilling x = new ProgressBilling();
        CHECKS.same("lines()", x.lines(), 0);
        CHECKS.same("contractSum()", x.contractSum(), 0);
        CHECKS.same("progress()", x.progress(), 0);
        CHECKS.same("rate()", x.rate(), 100);
        CHECKS.same("nextAmount()", x.nextAmount(), 0);
        CHECKS.same("paid()", x.paid(), 0);
        CHECKS.same("toCome()", x.toCome(), 0);
        CHECKS.same("applications()", x.applications(), 0);
    }

    /** The progress is 0, so of the steps the first one is in force. */
    private static void noLinesButSteps() {
        ProgressBilling x = new ProgressBilling();
        CHECKS.same("setStep(1, 0)", x.setStep(1, 0), ProgressBilling.NONE);
        CHECKS.same("rate()", x.rate(), 100);
        CHECKS.same("setStep(0, 1000)", x.setStep(0, 1000), 100);
        CHECKS.same("rate()", x.rate(), 1000);
        CHECKS.same("nextAmount()", x.nextAmount(), 0);
        x.hold(true);
        CHECKS.same("nextAmount() by the increase", x.nextAmount(), 0);
    }

    private static void oneLine() {
        ProgressBilling x = Contracts.unequalLines(1);
        CHECKS.same("lines()", x.lines(), 1);
        CHECKS.same("contractSum()", x.contractSum(), 2000);
        CHECKS.same("lineByShare(0)", x.lineByShare(0), 0);
        CHECKS.same("progress(), 10 of 2000", x.progress(), 5);
        CHECKS.same("billedBehind(0)", x.billedBehind(0), 100);
        CHECKS.same("heldBehind(0)", x.heldBehind(0), 50);
        CHECKS.same("nextAmount(), 105 less 53 less 50", x.nextAmount(), 2);
    }

    private static void sixteenLines() {
        ProgressBilling x = Contracts.unequalLines(16);
        CHECKS.same("lines()", x.lines(), 16);
        CHECKS.same("contractSum(), 16 * 2000 and 0 to 15", x.contractSum(), 32120);
        CHECKS.same("progress(), 280 of 32120", x.progress(), 8);
        CHECKS.same("billedBehind(0), 16 * 100 and 0 to 15", x.billedBehind(0), 1720);
        CHECKS.same("heldBehind(0), the halves of 100 to 115, rounded up", x.heldBehind(0), 864);
        CHECKS.same("amount(0)", x.amount(0), 856);
        // Earned by now: 105, 107, .. 135, each odd, so each half is rounded up.
        CHECKS.same("nextAmount(), 1920 less 968 less 856", x.nextAmount(), 96);
        CHECKS.same("lineByShare(0)", x.lineByShare(0), 15);
        CHECKS.same("lineByShare(15)", x.lineByShare(15), 0);
    }

    /** There is no room for more lines, but the ones that are there can be used. */
    private static void sixteenLinesGoOn() {
        ProgressBilling x = Contracts.unequalLines(16);
        CHECKS.same("changeValue(15, 10000000)", x.changeValue(15, 10000000), 9997985);
        CHECKS.same("store(15, 1)", x.store(15, 1), 111);
        CHECKS.same("place(15, 111)", x.place(15, 111), 136);
        CHECKS.same("setWork(15, 1000)", x.setWork(15, 1000), 9999864);
        CHECKS.same("lineByShare(0)", x.lineByShare(0), 15);
        CHECKS.same("close()", x.close(), 1);
        CHECKS.same("billed(15)", x.billed(15), 10000000);
    }

    // ---- steps

    private static void oneStep() {
        ProgressBilling x = Contracts.steps(1);
        CHECKS.same("steps()", x.steps(), 1);
        CHECKS.same("rate() at 500", x.rate(), 100);
        x.setWork(0, 1000);
        CHECKS.same("rate() at 1000", x.rate(), 100);
    }

    private static void sixSteps() {
        ProgressBilling x = Contracts.steps(6);
        CHECKS.same("steps()", x.steps(), 6);
        CHECKS.same("rate() at 500", x.rate(), 80);
        for (int threshold = 1000; threshold > 0; threshold -= 200) {
            CHECKS.same("dropStep(" + threshold + ")", x.dropStep(threshold), 100 - threshold / 20);
            CHECKS.same("steps() without " + threshold, x.steps(), threshold / 200);
        }
        for (int threshold = 200; threshold <= 1000; threshold += 200) {
            CHECKS.same("setStep(" + threshold + ", 1) again", x.setStep(threshold, 1), ProgressBilling.NONE);
            CHECKS.same("steps() with " + threshold, x.steps(), 1 + threshold / 200);
        }
    }

    /** It is changed, and no step is added. */
    private static void aStepThatIsThereAlready() {
        for (int steps = 1; steps <= 6; steps++) {
            ProgressBilling x = Contracts.steps(steps);
            for (int step = 0; step < steps; step++) {
                CHECKS.same("setStep of step " + step + " of " + steps, x.setStep(200 * step, step), 100 - 10 * step);
                CHECKS.same("setStep of it again", x.setStep(200 * step, 7), step);
            }
            CHECKS.same("steps()", x.steps(), steps);
            CHECKS.same("rate()", x.rate(), 7);
        }
    }

    /** A threshold that is the progress is not above it. */
    private static void theRateOfEachStepAtItsEdges() {
        for (int threshold = 200; threshold <= 1000; threshold += 200) {
            for (int progress = threshold - 1; progress <= Math.min(1000, threshold + 1); progress++) {
                ProgressBilling x = Contracts.at(progress);
                for (int step = 5; step > 0; step--) {
                    x.setStep(200 * step, 100 - 10 * step);
                }
                CHECKS.same("progress()", x.progress(), progress);
                CHECKS.same("rate() at " + progress, x.rate(), 100 - progress / 200 * 10);
            }
        }
    }

    private static void theStepThatIsLeftTakesTheRate() {
        ProgressBilling x = Contracts.steps(6);
        x.dropStep(600);
        CHECKS.same("rate() without a step above the progress", x.rate(), 80);
        x.dropStep(400);
        CHECKS.same("rate() without the step in force", x.rate(), 90);
        x.dropStep(200);
        CHECKS.same("rate() without any but the first and those above", x.rate(), 100);
        x.setStep(500, 33);
        CHECKS.same("rate() with a step at the progress", x.rate(), 33);
        x.setStep(501, 22);
        CHECKS.same("rate() with a step 1 above the progress", x.rate(), 33);
        x.setStep(499, 11);
        CHECKS.same("rate() with a step 1 below the progress", x.rate(), 33);
    }

    // ---- applications

    private static void noApplications() {
        ProgressBilling x = Contracts.at(500);
        CHECKS.same("applications()", x.applications(), 0);
        CHECKS.same("paid()", x.paid(), 0);
        CHECKS.same("toCome()", x.toCome(), 1000);
        CHECKS.same("nextAmount()", x.nextAmount(), 450);
        CHECKS.same("billed(0)", x.billed(0), 0);
        CHECKS.same("held(0)", x.held(0), 0);
    }

    private static void oneApplication() {
        ProgressBilling x = Contracts.at(500);
        CHECKS.same("close()", x.close(), 0);
        CHECKS.same("applications()", x.applications(), 1);
        CHECKS.same("state(0)", x.state(0), ProgressBilling.CLOSED);
        CHECKS.same("amount(0)", x.amount(0), 450);
        CHECKS.same("paid()", x.paid(), 0);
        CHECKS.same("pay(0)", x.pay(0), 450);
        CHECKS.same("paid()", x.paid(), 450);
        CHECKS.same("waive(0)", x.waive(0), 1);
        CHECKS.same("paid()", x.paid(), 450);
        CHECKS.same("toCome()", x.toCome(), 550);
    }

    private static void sixtyApplications() {
        ProgressBilling x = Contracts.closed(60);
        CHECKS.same("applications()", x.applications(), 60);
        CHECKS.same("amount(59)", x.amount(59), 90 * 60);
        CHECKS.same("billedBehind(59)", x.billedBehind(59), 183000);
        CHECKS.same("heldBehind(59)", x.heldBehind(59), 18300);
        CHECKS.same("amount(0)", x.amount(0), 90);
        CHECKS.same("nextAmount() when nothing is new", x.nextAmount(), 0);
        CHECKS.same("paid()", x.paid(), 0);
        CHECKS.same("toCome()", x.toCome(), 1000000);
    }

    /** There is no room for more applications, but all else can be used. */
    private static void sixtyApplicationsGoOn() {
        ProgressBilling x = Contracts.closed(60);
        CHECKS.same("addLine(1000)", x.addLine(1000), 1);
        CHECKS.same("changeValue(1, 2000)", x.changeValue(1, 2000), 1000);
        CHECKS.same("store(1, 100)", x.store(1, 100), 100);
        CHECKS.same("nextAmount()", x.nextAmount(), 90);
        CHECKS.same("place(1, 50)", x.place(1, 50), 50);
        CHECKS.same("setWork(1, 100)", x.setWork(1, 100), 150);
        CHECKS.same("nextAmount()", x.nextAmount(), 225);
        CHECKS.same("setStep(0, 200)", x.setStep(0, 200), 100);
        CHECKS.same("nextAmount() by the whole, 183250 less 36650 less 164700", x.nextAmount(), -18100);
        CHECKS.same("hold(true)", x.hold(true), false);
        CHECKS.same("nextAmount() by the increase, 250 less 50", x.nextAmount(), 200);
        CHECKS.same("split(1, 1000)", x.split(1, 1000), 2);
        CHECKS.same("nextAmount() of the split line", x.nextAmount(), 200);
        CHECKS.same("billed(1)", x.billed(1), 0);
        CHECKS.same("pay(0)", x.pay(0), 90);
        CHECKS.same("waive(0)", x.waive(0), 1);
        CHECKS.same("applications()", x.applications(), 60);
    }

    private static void sixtyPaymentsAndWaivers() {
        ProgressBilling x = Contracts.closed(60);
        int paid = 0;
        for (int application = 0; application < 60; application++) {
            paid += 90 * (application + 1);
            CHECKS.same("pay(" + application + ")", x.pay(application), 90 * (application + 1));
            CHECKS.same("paid() of a PAID one", x.paid(), paid);
            CHECKS.same("waive(" + application + ")", x.waive(application), application + 1);
        }
        CHECKS.same("paid() of all", x.paid(), 164700);
        CHECKS.same("toCome()", x.toCome(), 835300);
    }

    // ---- 0

    private static void aContractSumOfZero() {
        ProgressBilling x = Contracts.lines(3, 0);
        x.setStep(1, 5);
        CHECKS.same("contractSum()", x.contractSum(), 0);
        CHECKS.same("progress()", x.progress(), 0);
        CHECKS.same("rate()", x.rate(), 100);
        CHECKS.same("nextAmount()", x.nextAmount(), 0);
        CHECKS.same("close()", x.close(), 0);
        CHECKS.same("amount(0)", x.amount(0), 0);
        CHECKS.same("billedBehind(0)", x.billedBehind(0), 0);
        CHECKS.same("heldBehind(0)", x.heldBehind(0), 0);
        CHECKS.same("pay(0)", x.pay(0), 0);
        CHECKS.same("waive(0)", x.waive(0), 1);
        CHECKS.same("paid()", x.paid(), 0);
        CHECKS.same("toCome()", x.toCome(), 0);
        CHECKS.same("lineByShare(0)", x.lineByShare(0), 0);
        CHECKS.same("lineByShare(2)", x.lineByShare(2), 2);
    }

    private static void aContractSumThatBecomesZero() {
        ProgressBilling x = Contracts.line(1000);
        x.close();
        CHECKS.same("changeValue(0, 0)", x.changeValue(0, 0), -1000);
        CHECKS.same("contractSum()", x.contractSum(), 0);
        CHECKS.same("progress()", x.progress(), 0);
        CHECKS.same("close()", x.close(), 1);
        CHECKS.same("changeValue(0, 1)", x.changeValue(0, 1), 1);
        CHECKS.same("setWork(0, 1000)", x.setWork(0, 1000), 1);
        CHECKS.same("progress()", x.progress(), 1000);
    }

    private static void aLineWithTheValueZero() {
        ProgressBilling x = Contracts.line(0);
        for (int share : new int[] {0, 1, 499, 500, 1000, 0}) {
            CHECKS.same("setWork(0, " + share + ")", x.setWork(0, share), 0);
        }
        CHECKS.same("value(0)", x.value(0), 0);
        CHECKS.same("work(0)", x.work(0), 0);
        CHECKS.same("goods(0)", x.goods(0), 0);
        CHECKS.same("lineByShare(0)", x.lineByShare(0), 0);
        CHECKS.thrown("store(0, 1)", () -> Contracts.line(0), Checks.REFUSED, y -> y.store(0, 1));
        CHECKS.thrown("place(0, 1)", () -> Contracts.line(0), Checks.REFUSED, y -> y.place(0, 1));
        CHECKS.thrown("split(0, 0)", () -> Contracts.line(0), Checks.OUT_OF_RANGE, y -> y.split(0, 0));
        CHECKS.same("changeValue(0, 0)", x.changeValue(0, 0), 0);
        CHECKS.same("changeValue(0, 10000000)", x.changeValue(0, 10000000), 10000000);
        CHECKS.same("setWork(0, 1)", x.setWork(0, 1), 10000);
    }

    private static void aLineWithTheValueZeroAmongOthers() {
        ProgressBilling x = Contracts.unequalLines(2);
        CHECKS.same("addLine(0)", x.addLine(0), 2);
        CHECKS.same("progress() stays, 21 of 4001", x.progress(), 5);
        CHECKS.same("lineByShare(2)", x.lineByShare(2), 2);
        CHECKS.same("close()", x.close(), 1);
        CHECKS.same("billed(2)", x.billed(2), 0);
        CHECKS.same("held(2)", x.held(2), 0);
    }

    /** Billed and held are both 0 at first, for a line that comes later too. */
    private static void aLineThatIsClosedBeforeAnotherIsAdded() {
        ProgressBilling x = Contracts.at(1000);
        x.close();
        CHECKS.same("addLine(1000)", x.addLine(1000), 1);
        CHECKS.same("billed(1)", x.billed(1), 0);
        CHECKS.same("held(1)", x.held(1), 0);
        CHECKS.same("progress(), half of it now", x.progress(), 500);
        CHECKS.same("toCome()", x.toCome(), 2000);
        CHECKS.same("nextAmount() when nothing is new", x.nextAmount(), 0);
    }

    // ---- calls

    /** One call with the line, 8 with each of 60 applications, 2 with each of 15 lines more, and the last one. */
    private static void fiveHundredAndTwelveCalls() {
        ProgressBilling x = Contracts.line(1000000);
        int paid = 0;
        for (int application = 0; application < 60; application++) {
            int more = 100 * (application + 1);
            CHECKS.same("store(0, " + more + ")", x.store(0, more), 50 * (application + 1) * (application + 2));
            CHECKS.same("nextAmount()", x.nextAmount(), 90 * (application + 1));
            CHECKS.same("close()", x.close(), application);
            CHECKS.same("pay(" + application + ")", x.pay(application), 90 * (application + 1));
            CHECKS.same("waive(" + application + ")", x.waive(application), application + 1);
            paid += 90 * (application + 1);
            CHECKS.same("paid()", x.paid(), paid);
            CHECKS.same("toCome()", x.toCome(), 1000000 - paid);
            CHECKS.same("state(" + application + ")", x.state(application), ProgressBilling.WAIVED);
        }
        for (int line = 1; line < 16; line++) {
            CHECKS.same("addLine(" + line + ")", x.addLine(line), line);
            CHECKS.same("contractSum() with line " + line, x.contractSum(), 1000000 + line * (line + 1) / 2);
        }
        CHECKS.same("lines(), the call 512", x.lines(), 16);
    }
}
