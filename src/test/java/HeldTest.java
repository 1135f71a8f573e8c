/** What is held: promises 8 to 13. */
final class HeldTest {
    private static final Checks CHECKS = new Checks("what is held");

    public static void main(String[] args) {
        promise8SetStep();
        promise9DropStep();
        promise10Hold();
        promise11Steps();
        promise12Progress();
        promise13Rate();
        promise13OrderOfStepsIsFree();
        CHECKS.end();
    }

    private static ProgressBilling withSixSteps() {
        ProgressBilling x = Contracts.at(600);
        x.setStep(1000, 0);
        x.setStep(300, 80);
        x.setStep(999, 5);
        x.setStep(500, 60);
        x.setStep(1, 90);
        return x;
    }

    private static void promise8SetStep() {
        ProgressBilling x = Contracts.at(0);
        CHECKS.same("setStep(0, 1000) on the first step", x.setStep(0, 1000), 100);
        CHECKS.same("rate()", x.rate(), 1000);
        CHECKS.same("setStep(0, 0)", x.setStep(0, 0), 1000);
        CHECKS.same("rate()", x.rate(), 0);
        CHECKS.same("steps()", x.steps(), 1);
        CHECKS.same("setStep(1000, 1000)", x.setStep(1000, 1000), ProgressBilling.NONE);
        CHECKS.same("setStep(1, 0)", x.setStep(1, 0), ProgressBilling.NONE);
        CHECKS.same("a rate of 0 is a step", x.setStep(1, 7), 0);
        CHECKS.same("steps()", x.steps(), 3);
        ProgressBilling six = withSixSteps();
        CHECKS.same("changing one of 6 steps", six.setStep(300, 81), 80);
        CHECKS.same("changing it again", six.setStep(300, 80), 81);
        CHECKS.same("steps()", six.steps(), 6);
    }

    private static void promise9DropStep() {
        ProgressBilling x = withSixSteps();
        CHECKS.same("dropStep(300)", x.dropStep(300), 80);
        CHECKS.same("dropStep(1)", x.dropStep(1), 90);
        CHECKS.same("dropStep(1000)", x.dropStep(1000), 0);
        CHECKS.same("steps()", x.steps(), 3);
        CHECKS.same("rate() at 600", x.rate(), 60);
        CHECKS.same("dropStep(500)", x.dropStep(500), 60);
        CHECKS.same("rate() at 600", x.rate(), 100);
        CHECKS.same("setStep(300, 1) has room again", x.setStep(300, 1), ProgressBilling.NONE);
        CHECKS.same("dropStep(999)", x.dropStep(999), 5);
        CHECKS.same("dropStep(300)", x.dropStep(300), 1);
        CHECKS.same("steps()", x.steps(), 1);
        CHECKS.same("the step 0 stays", x.setStep(0, 1), 100);
    }

    private static void promise10Hold() {
        ProgressBilling x = Contracts.at(500);
        CHECKS.same("hold(true)", x.hold(true), false);
        CHECKS.same("hold(true) again", x.hold(true), true);
        CHECKS.same("hold(false)", x.hold(false), true);
        CHECKS.same("hold(false) again", x.hold(false), false);
        x.close();
        x.setStep(0, 200);
        x.setWork(0, 600);
        CHECKS.same("nextAmount() by the whole: 600 - 120 - 450", x.nextAmount(), 30);
        CHECKS.same("held(0) is not touched", x.held(0), 50);
        x.hold(true);
        CHECKS.same("nextAmount() by the increase: 600 - 70 - 450", x.nextAmount(), 80);
        x.close();
        CHECKS.same("held(0) by the increase", x.held(0), 70);
        CHECKS.same("hold stays behind a closing", x.hold(false), true);
        x.close();
        CHECKS.same("held(0) by the whole", x.held(0), 120);
    }

    private static void promise11Steps() {
        ProgressBilling x = new ProgressBilling();
        CHECKS.same("steps() at first", x.steps(), 1);
        for (int threshold = 1; threshold <= 5; threshold++) {
            x.setStep(threshold, 10);
            CHECKS.same("steps() behind setStep", x.steps(), 1 + threshold);
        }
        x.dropStep(3);
        CHECKS.same("steps() behind dropStep", x.steps(), 5);
    }

    private static void promise12Progress() {
        CHECKS.same("without lines", new ProgressBilling().progress(), 0);
        ProgressBilling zero = new ProgressBilling();
        zero.addLine(0);
        zero.setWork(0, 1000);
        CHECKS.same("with a contract sum of 0", zero.progress(), 0);
        ProgressBilling x = new ProgressBilling();
        x.addLine(3);
        x.addLine(0);
        x.setWork(0, 667);
        CHECKS.same("2 of 3, rounded down", x.progress(), 666);
        x.store(0, 1);
        CHECKS.same("goods do not count", x.progress(), 666);
        x.place(0, 1);
        CHECKS.same("3 of 3", x.progress(), 1000);
        x.changeValue(0, 3001);
        CHECKS.same("3 of 3001", x.progress(), 0);
        ProgressBilling great = new ProgressBilling();
        for (int line = 0; line < 16; line++) {
            great.addLine(10000000);
            great.setWork(line, line == 0 ? 999 : 1000);
        }
        CHECKS.same("the greatest but for 10000", great.progress(), 999);
        great.setWork(0, 1000);
        CHECKS.same("the greatest", great.progress(), 1000);
    }

    private static void promise13Rate() {
        int[] progress = {0, 1, 2, 299, 300, 301, 499, 500, 600, 998, 999, 1000};
        int[] due = {100, 90, 90, 90, 80, 80, 80, 60, 60, 60, 5, 0};
        for (int i = 0; i < progress.length; i++) {
            ProgressBilling x = Contracts.at(progress[i]);
            x.setStep(1000, 0);
            x.setStep(300, 80);
            x.setStep(999, 5);
            x.setStep(500, 60);
            x.setStep(1, 90);
            CHECKS.same("rate() at " + progress[i], x.rate(), due[i]);
        }
        ProgressBilling y = withSixSteps();
        y.setStep(500, 700);
        CHECKS.same("rate() of a changed step", y.rate(), 700);
        y.addLine(1000);
        CHECKS.same("rate() at 300 of 1000", y.rate(), 80);
        CHECKS.same("rate() without lines", new ProgressBilling().rate(), 100);
    }

    private static void promise13OrderOfStepsIsFree() {
        int[][] orders = {{100, 200, 300}, {100, 300, 200}, {200, 100, 300}, {200, 300, 100}, {300, 100, 200}, {300, 200, 100}};
        for (int[] order : orders) {
            ProgressBilling x = Contracts.at(250);
            for (int threshold : order) {
                x.setStep(threshold, threshold + 1);
            }
            CHECKS.same("rate() at 250", x.rate(), 201);
            x.dropStep(200);
            CHECKS.same("rate() at 250 without the step 200", x.rate(), 101);
            x.dropStep(100);
            CHECKS.same("rate() at 250 without the step 100", x.rate(), 100);
            x.setWork(0, 300);
            CHECKS.same("rate() at 300", x.rate(), 301);
        }
    }
}
