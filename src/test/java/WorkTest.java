/** Work and goods: promises 5 to 7, and the sheets work and goods: 25, 26. */
final class WorkTest {
    private static final Checks CHECKS = new Checks("work and goods");

    public static void main(String[] args) {
        promise5SetWork();
        promise5GoesByTheValueOfNow();
        promise6Store();
        promise7Place();
        promises25And26();
        CHECKS.end();
    }

    /** A line of 1000 with 300 of work and 200 of goods. */
    private static ProgressBilling underWay() {
        ProgressBilling x = Contracts.line(1000);
        x.addLine(50);
        x.setWork(0, 300);
        x.store(0, 200);
        return x;
    }

    private static void promise5SetWork() {
        ProgressBilling x = underWay();
        CHECKS.same("setWork(0, 450)", x.setWork(0, 450), 150);
        CHECKS.same("work(0)", x.work(0), 450);
        CHECKS.same("goods(0) stay", x.goods(0), 200);
        CHECKS.same("setWork to the same", x.setWork(0, 450), 0);
        CHECKS.same("setWork to all but the goods", x.setWork(0, 800), 350);
        CHECKS.same("work(0)", x.work(0), 800);
        CHECKS.same("work(1) stays", x.work(1), 0);
        ProgressBilling y = Contracts.line(10000000);
        CHECKS.same("setWork(0, 0)", y.setWork(0, 0), 0);
        CHECKS.same("setWork(0, 1)", y.setWork(0, 1), 10000);
        CHECKS.same("setWork(0, 1000)", y.setWork(0, 1000), 9990000);
        CHECKS.same("work(0)", y.work(0), 10000000);
        ProgressBilling zero = Contracts.line(0);
        CHECKS.same("setWork(0, 1000) of the value 0", zero.setWork(0, 1000), 0);
        CHECKS.same("work(0) of the value 0", zero.work(0), 0);
    }

    private static void promise5GoesByTheValueOfNow() {
        ProgressBilling x = underWay();
        x.changeValue(0, 2000);
        CHECKS.same("setWork(0, 150) of 2000", x.setWork(0, 150), 0);
        CHECKS.same("setWork(0, 900) of 2000", x.setWork(0, 900), 1500);
        x.changeValue(0, 3000);
        CHECKS.same("setWork(0, 600) of 3000", x.setWork(0, 600), 0);
    }

    private static void promise6Store() {
        ProgressBilling x = underWay();
        CHECKS.same("store(0, 1)", x.store(0, 1), 201);
        CHECKS.same("goods(0)", x.goods(0), 201);
        CHECKS.same("work(0) stays", x.work(0), 300);
        CHECKS.same("store up to the value", x.store(0, 499), 700);
        CHECKS.same("goods(0)", x.goods(0), 700);
        CHECKS.same("goods(1) stay", x.goods(1), 0);
        CHECKS.same("store(1, 50)", x.store(1, 50), 50);
        CHECKS.same("store(0, 10000000)", Contracts.line(10000000).store(0, 10000000), 10000000);
    }

    private static void promise7Place() {
        ProgressBilling x = underWay();
        CHECKS.same("place(0, 1)", x.place(0, 1), 301);
        CHECKS.same("goods(0)", x.goods(0), 199);
        CHECKS.same("work(0)", x.work(0), 301);
        CHECKS.same("place all goods", x.place(0, 199), 500);
        CHECKS.same("goods(0)", x.goods(0), 0);
        CHECKS.same("progress() counts it: 500 of 1050", x.progress(), 476);
        CHECKS.same("nextAmount() stays: 500 less 50", x.nextAmount(), 450);
        ProgressBilling y = Contracts.line(10000000);
        y.store(0, 10000000);
        CHECKS.same("place(0, 10000000)", y.place(0, 10000000), 10000000);
    }

    private static void promises25And26() {
        ProgressBilling x = underWay();
        CHECKS.same("work(0)", x.work(0), 300);
        CHECKS.same("goods(0)", x.goods(0), 200);
        CHECKS.same("work(1)", x.work(1), 0);
        CHECKS.same("goods(1)", x.goods(1), 0);
    }
}
