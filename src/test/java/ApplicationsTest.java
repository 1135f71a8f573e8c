/** Applications and payments: promises 14 to 22, and the sheets billed, held, paid, toCome: 27, 28, 31, 32. */
final class ApplicationsTest {
    private static final Checks CHECKS = new Checks("applications");

    public static void main(String[] args) {
        promise14CloseByTheWhole();
        promise14CloseByTheIncrease();
        promise14RateOfTheClosing();
        promise15NextAmount();
        promises16And17PayAndWaive();
        promises18To22();
        promises31And32();
        CHECKS.end();
    }

    /** A line of 1000 and so many applications of 90 each. */
    private static ProgressBilling closed(int applications) {
        ProgressBilling x = Contracts.line(1000);
        for (int application = 0; application < applications; application++) {
            x.setWork(0, Math.min(1000, 100 * (application + 1)));
            x.close();
        }
        return x;
    }

    private static void promise14CloseByTheWhole() {
        ProgressBilling x = Contracts.line(1000);
        x.addLine(500);
        x.setWork(0, 400);
        x.store(1, 55);
        CHECKS.same("close()", x.close(), 0);
        CHECKS.same("billed(0)", x.billed(0), 400);
        CHECKS.same("billed(1) has the goods", x.billed(1), 55);
        CHECKS.same("held(0)", x.held(0), 40);
        CHECKS.same("held(1), 5.5", x.held(1), 6);
        CHECKS.same("amount(0)", x.amount(0), 409);
        x.setStep(0, 50);
        CHECKS.same("close()", x.close(), 1);
        CHECKS.same("held(0) falls", x.held(0), 20);
        CHECKS.same("held(1), 2.75", x.held(1), 3);
        CHECKS.same("amount(1)", x.amount(1), 23);
        x.setStep(0, 1000);
        x.store(1, 1);
        CHECKS.same("close()", x.close(), 2);
        CHECKS.same("held(0)", x.held(0), 400);
        CHECKS.same("amount(2) is below 0", x.amount(2), -432);
        CHECKS.same("work(0) stays", x.work(0), 400);
        CHECKS.same("goods(1) stay", x.goods(1), 56);
    }

    private static void promise14CloseByTheIncrease() {
        ProgressBilling x = Contracts.line(1000);
        x.hold(true);
        x.setWork(0, 400);
        x.close();
        CHECKS.same("held(0)", x.held(0), 40);
        x.setStep(0, 50);
        x.close();
        CHECKS.same("held(0) without an increase", x.held(0), 40);
        CHECKS.same("amount(1)", x.amount(1), 0);
        x.store(0, 110);
        x.close();
        CHECKS.same("held(0), 5.5 more", x.held(0), 46);
        CHECKS.same("amount(2)", x.amount(2), 104);
        x.place(0, 110);
        x.close();
        CHECKS.same("held(0) of placed goods", x.held(0), 46);
        x.setStep(0, 0);
        x.setWork(0, 1000);
        x.close();
        CHECKS.same("held(0) at the rate 0", x.held(0), 46);
        CHECKS.same("amount(4)", x.amount(4), 490);
        CHECKS.same("heldBehind(4)", x.heldBehind(4), 46);
        CHECKS.same("billedBehind(4)", x.billedBehind(4), 1000);
    }

    private static void promise14RateOfTheClosing() {
        ProgressBilling x = Contracts.line(1000);
        x.addLine(1000);
        x.setStep(250, 50);
        x.setStep(500, 0);
        x.setWork(0, 499);
        x.close();
        CHECKS.same("held(0) at 249", x.held(0), 50);
        x.setWork(0, 500);
        x.close();
        CHECKS.same("held(0) at 250", x.held(0), 25);
        x.setWork(1, 500);
        x.close();
        CHECKS.same("held(0) at 500", x.held(0), 0);
        CHECKS.same("amount(2)", x.amount(2), 525);
        x.changeValue(1, 1001);
        x.close();
        CHECKS.same("held(0) at 499 again", x.held(0), 25);
        CHECKS.same("held(1) at 499 again", x.held(1), 25);
        CHECKS.same("amount(3)", x.amount(3), -50);
    }

    private static void promise15NextAmount() {
        CHECKS.same("without lines", new ProgressBilling().nextAmount(), 0);
        CHECKS.same("without work", Contracts.line(1000).nextAmount(), 0);
        ProgressBilling x = Contracts.line(1000);
        x.addLine(10000000);
        x.setStep(1, 33);
        int[] shares = {0, 5, 250, 251, 999, 1000};
        for (int share : shares) {
            x.hold(share % 2 == 1);
            x.setWork(0, share);
            x.setWork(1, share);
            int next = x.nextAmount();
            CHECKS.same("nextAmount() asked again", x.nextAmount(), next);
            CHECKS.same("the amount that nextAmount() told", x.amount(x.close()), next);
        }
        x.setStep(0, 500);
        x.setStep(1, 500);
        x.hold(false);
        CHECKS.same("nextAmount() below 0", x.nextAmount() < 0, true);
        int next = x.nextAmount();
        CHECKS.same("the amount below 0", x.amount(x.close()), next);
        CHECKS.same("nextAmount() when nothing is new", x.nextAmount(), 0);
        ProgressBilling y = closed(1);
        y.nextAmount();
        CHECKS.same("nextAmount() changes nothing", Sheet.of(y), Sheet.of(closed(1)));
    }

    private static void promises16And17PayAndWaive() {
        ProgressBilling x = closed(3);
        CHECKS.same("pay(0)", x.pay(0), 90);
        CHECKS.same("state(0)", x.state(0), ProgressBilling.PAID);
        CHECKS.same("state(1)", x.state(1), ProgressBilling.CLOSED);
        CHECKS.same("waive(0)", x.waive(0), 1);
        CHECKS.same("state(0)", x.state(0), ProgressBilling.WAIVED);
        CHECKS.same("pay(1)", x.pay(1), 90);
        CHECKS.same("waive(1)", x.waive(1), 2);
        CHECKS.same("pay(2)", x.pay(2), 90);
        CHECKS.same("state(2)", x.state(2), ProgressBilling.PAID);
        CHECKS.same("waive(2)", x.waive(2), 3);
        x.setStep(0, 1000);
        x.close();
        CHECKS.same("pay of an amount below 0", x.pay(3), -270);
        CHECKS.same("waive(3)", x.waive(3), 4);
        ProgressBilling y = closed(60);
        for (int application = 0; application < 60; application++) {
            CHECKS.same("pay(" + application + ")", y.pay(application), y.amount(application));
            CHECKS.same("waive(" + application + ")", y.waive(application), application + 1);
        }
        CHECKS.same("paid()", y.paid(), 900);
    }

    private static void promises18To22() {
        ProgressBilling x = closed(2);
        CHECKS.same("applications()", x.applications(), 2);
        CHECKS.same("state(0)", x.state(0), ProgressBilling.CLOSED);
        x.setWork(0, 1000);
        x.setStep(0, 30);
        x.close();
        CHECKS.same("applications()", x.applications(), 3);
        CHECKS.same("amount(0) stays", x.amount(0), 90);
        CHECKS.same("amount(1) stays", x.amount(1), 90);
        CHECKS.same("amount(2)", x.amount(2), 790);
        CHECKS.same("billedBehind(0) stays", x.billedBehind(0), 100);
        CHECKS.same("billedBehind(1) stays", x.billedBehind(1), 200);
        CHECKS.same("billedBehind(2)", x.billedBehind(2), 1000);
        CHECKS.same("heldBehind(0) stays", x.heldBehind(0), 10);
        CHECKS.same("heldBehind(1) stays", x.heldBehind(1), 20);
        CHECKS.same("heldBehind(2)", x.heldBehind(2), 30);
        x.split(0, 100);
        CHECKS.same("billedBehind(2) behind a split", x.billedBehind(2), 1000);
        CHECKS.same("heldBehind(2) behind a split", x.heldBehind(2), 30);
        ProgressBilling great = new ProgressBilling();
        for (int line = 0; line < 16; line++) {
            great.addLine(10000000);
            great.setWork(line, 1000);
        }
        great.close();
        CHECKS.same("the greatest billedBehind(0)", great.billedBehind(0), 160000000);
        CHECKS.same("the greatest heldBehind(0)", great.heldBehind(0), 16000000);
        CHECKS.same("the greatest amount(0)", great.amount(0), 144000000);
        great.setStep(0, 1000);
        great.close();
        CHECKS.same("the greatest heldBehind(1)", great.heldBehind(1), 160000000);
        CHECKS.same("the least amount(1)", great.amount(1), -144000000);
    }

    private static void promises31And32() {
        ProgressBilling x = closed(3);
        CHECKS.same("paid() of none", x.paid(), 0);
        CHECKS.same("toCome() of all", x.toCome(), 1000);
        x.pay(0);
        CHECKS.same("paid() of a PAID one", x.paid(), 90);
        CHECKS.same("toCome()", x.toCome(), 910);
        x.waive(0);
        CHECKS.same("paid() of a WAIVED one", x.paid(), 90);
        x.pay(1);
        CHECKS.same("paid() of both", x.paid(), 180);
        CHECKS.same("toCome()", x.toCome(), 820);
        x.changeValue(0, 300);
        CHECKS.same("toCome() of a smaller contract", x.toCome(), 120);
        ProgressBilling y = Contracts.line(1000);
        y.setStep(0, 0);
        y.setWork(0, 1000);
        y.close();
        y.pay(0);
        y.waive(0);
        CHECKS.same("toCome() of nothing", y.toCome(), 0);
        y.setStep(0, 1000);
        y.close();
        y.pay(1);
        CHECKS.same("paid() with an amount below 0", y.paid(), 0);
        CHECKS.same("toCome()", y.toCome(), 1000);
    }
}
