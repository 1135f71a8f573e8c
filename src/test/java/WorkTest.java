import java.util.function.Supplier;

/** Work and goods: promises 5 to 7, and the sheets work and goods: 25, 26. */
final class WorkTest {
    private static final Checks CHECKS = new Checks("work and goods");

    public static void main(String[] args) {
        promise5SetWork();
        promise5IsRounded();
        promise5GoesByTheValueOfNow();
        promise5Throws();
        promise6Store();
        promise6Throws();
        promise7Place();
        promise7Throws();
        promises25And26();
        CHECKS.end();
    }

    private static ProgressBilling withLine(int value) {
        ProgressBilling x = new ProgressBilling();
        x.addLine(value);
        return x;
    }

    /** A line of 1000 with 300 of work and 200 of goods. */
    private static ProgressBilling underWay() {
        ProgressBilling x = withLine(1000);
        x.addLine(50);
        x.setWork(0, 300);
        x.store(0, 200);
        return x;
    }

    private static void promise5SetWork() {
        ProgressBilling x = underWay();
        CHECKS.same("setWork(0, 450)", x.setWork(0, 450), 150);
        CHECKS.same("work(0)", x.work(0), 450);
        CHECKS.same("goods(0) stay", x.goods(0), 200);
        CHECKS.same("setWork to the same", x.setWork(0, 450), 0);
        CHECKS.same("setWork to all but the goods", x.setWork(0, 800), 350);
        CHECKS.same("work(0)", x.work(0), 800);
        CHECKS.same("work(1) stays", x.work(1), 0);
        ProgressBilling y = withLine(10000000);
        CHECKS.same("setWork(0, 0)", y.setWork(0, 0), 0);
        CHECKS.same("setWork(0, 1)", y.setWork(0, 1), 10000);
        CHECKS.same("setWork(0, 1000)", y.setWork(0, 1000), 9990000);
        CHECKS.same("work(0)", y.work(0), 10000000);
        ProgressBilling zero = withLine(0);
        CHECKS.same("setWork(0, 1000) of the value 0", zero.setWork(0, 1000), 0);
        CHECKS.same("work(0) of the value 0", zero.work(0), 0);
    }

    private static void promise5IsRounded() {
        ProgressBilling x = withLine(1);
        CHECKS.same("1 * 499 / 1000", x.setWork(0, 499), 0);
        CHECKS.same("1 * 500 / 1000", x.setWork(0, 500), 1);
        ProgressBilling y = withLine(9999999);
        CHECKS.same("9999999 * 499 / 1000 = 4989999.501", y.setWork(0, 499), 4990000);
        CHECKS.same("9999999 * 500 / 1000 = 4999999.5", y.setWork(0, 500), 10000);
        CHECKS.same("9999999 * 501 / 1000 = 5009999.499", y.setWork(0, 501), 9999);
        ProgressBilling z = withLine(3);
        CHECKS.same("3 * 833 / 1000 = 2.499", z.setWork(0, 833), 2);
        CHECKS.same("3 * 834 / 1000 = 2.502", z.setWork(0, 834), 1);
    }

    private static void promise5GoesByTheValueOfNow() {
        ProgressBilling x = underWay();
        x.changeValue(0, 2000);
        CHECKS.same("setWork(0, 150) of 2000", x.setWork(0, 150), 0);
        CHECKS.same("setWork(0, 900) of 2000", x.setWork(0, 900), 1500);
        x.changeValue(0, 3000);
        CHECKS.same("setWork(0, 600) of 3000", x.setWork(0, 600), 0);
    }

    private static void promise5Throws() {
        Supplier<ProgressBilling> made = WorkTest::underWay;
        for (int line : Numbers.and(Checks.FAR_OUT, -1, 2, 16)) {
            CHECKS.thrown("setWork(" + line + ", 1000)", made, Checks.NO_SUCH, x -> x.setWork(line, 1000));
            CHECKS.thrown("setWork(" + line + ", 1001)", made, Checks.NO_SUCH, x -> x.setWork(line, 1001));
        }
        for (int share : Numbers.and(Checks.FAR_OUT, -1, 1001)) {
            CHECKS.thrown("setWork(0, " + share + ")", made, Checks.OUT_OF_RANGE, x -> x.setWork(0, share));
        }
        CHECKS.thrown("setWork to less work", made, Checks.REFUSED, x -> x.setWork(0, 299));
        CHECKS.thrown("setWork to no work", made, Checks.REFUSED, x -> x.setWork(0, 0));
        CHECKS.thrown("setWork and goods above the value", made, Checks.REFUSED, x -> x.setWork(0, 801));
        CHECKS.thrown("setWork to all, with goods", made, Checks.REFUSED, x -> x.setWork(0, 1000));
    }

    private static void promise6Store() {
        ProgressBilling x = underWay();
        CHECKS.same("store(0, 1)", x.store(0, 1), 201);
        CHECKS.same("goods(0)", x.goods(0), 201);
        CHECKS.same("work(0) stays", x.work(0), 300);
        CHECKS.same("store up to the value", x.store(0, 499), 700);
        CHECKS.same("goods(0)", x.goods(0), 700);
        CHECKS.same("goods(1) stay", x.goods(1), 0);
        CHECKS.same("store(1, 50)", x.store(1, 50), 50);
        CHECKS.same("store(0, 10000000)", withLine(10000000).store(0, 10000000), 10000000);
    }

    private static void promise6Throws() {
        Supplier<ProgressBilling> made = WorkTest::underWay;
        for (int line : Numbers.and(Checks.FAR_OUT, -1, 2, 16)) {
            CHECKS.thrown("store(" + line + ", 10000000)", made, Checks.NO_SUCH, x -> x.store(line, 10000000));
            CHECKS.thrown("store(" + line + ", 0)", made, Checks.NO_SUCH, x -> x.store(line, 0));
        }
        for (int cents : Numbers.and(Checks.FAR_OUT, -1, 0, 10000001)) {
            CHECKS.thrown("store(0, " + cents + ")", made, Checks.OUT_OF_RANGE, x -> x.store(0, cents));
        }
        CHECKS.thrown("store above the value", made, Checks.REFUSED, x -> x.store(0, 501));
        CHECKS.thrown("store(0, 10000000)", made, Checks.REFUSED, x -> x.store(0, 10000000));
        CHECKS.thrown("store(0, 1) of the value 0", () -> withLine(0), Checks.REFUSED, x -> x.store(0, 1));
    }

    private static void promise7Place() {
        ProgressBilling x = underWay();
        CHECKS.same("place(0, 1)", x.place(0, 1), 301);
        CHECKS.same("goods(0)", x.goods(0), 199);
        CHECKS.same("work(0)", x.work(0), 301);
        CHECKS.same("place all goods", x.place(0, 199), 500);
        CHECKS.same("goods(0)", x.goods(0), 0);
        CHECKS.same("progress() counts it: 500 of 1050", x.progress(), 476);
        CHECKS.same("nextAmount() stays: 500 less 50", x.nextAmount(), 450);
        ProgressBilling y = withLine(10000000);
        y.store(0, 10000000);
        CHECKS.same("place(0, 10000000)", y.place(0, 10000000), 10000000);
    }

    private static void promise7Throws() {
        Supplier<ProgressBilling> made = WorkTest::underWay;
        for (int line : Numbers.and(Checks.FAR_OUT, -1, 2, 16)) {
            CHECKS.thrown("place(" + line + ", 10000000)", made, Checks.NO_SUCH, x -> x.place(line, 10000000));
            CHECKS.thrown("place(" + line + ", 0)", made, Checks.NO_SUCH, x -> x.place(line, 0));
        }
        for (int cents : Numbers.and(Checks.FAR_OUT, -1, 0, 10000001)) {
            CHECKS.thrown("place(0, " + cents + ")", made, Checks.OUT_OF_RANGE, x -> x.place(0, cents));
        }
        CHECKS.thrown("place(0, 201)", made, Checks.REFUSED, x -> x.place(0, 201));
        CHECKS.thrown("place(0, 10000000)", made, Checks.REFUSED, x -> x.place(0, 10000000));
        CHECKS.thrown("place(1, 1) without goods", made, Checks.REFUSED, x -> x.place(1, 1));
    }

    private static void promises25And26() {
        Supplier<ProgressBilling> made = WorkTest::underWay;
        CHECKS.same("work(0)", made.get().work(0), 300);
        CHECKS.same("goods(0)", made.get().goods(0), 200);
        CHECKS.same("work(1)", made.get().work(1), 0);
        CHECKS.same("goods(1)", made.get().goods(1), 0);
        for (int line : Numbers.and(Checks.FAR_OUT, -1, 2, 15, 16)) {
            CHECKS.thrown("work(" + line + ")", made, Checks.NO_SUCH, x -> x.work(line));
            CHECKS.thrown("goods(" + line + ")", made, Checks.NO_SUCH, x -> x.goods(line));
        }
    }
}
