import java.util.function.Supplier;

/**
 * Each sentence of the document with IllegalStateException: the last call that still goes, and the
 * first one that is refused. Checks.thrown looks at all of the contract behind each call that throws.
 */
final class RefusalsTest {
    private static final Checks CHECKS = new Checks("refusals");

    public static void main(String[] args) {
        promise2ThereAre16Lines();
        promise3ValueIsLessThanWhatTheLineHasEarned();
        promise3WhatWasEarnedByWorkAlone();
        promise3WhatWasEarnedByGoodsAlone();
        promise4ThereAre16Lines();
        promise5TheWorkWouldBecomeLess();
        promise5TheWorkWouldBecomeLessOfAChangedValue();
        promise5WouldHaveEarnedMoreThanItsValue();
        promise6WouldHaveEarnedMoreThanItsValue();
        promise6OfAValueThatIsEarned();
        promise7HasNotSoManyGoods();
        promise8ThereAre6Steps();
        promise9NoStepWithThisThreshold();
        promise14NoLines();
        promise14SixtyApplications();
        promise16IsPaidOrWaived();
        promise16WaiverBeforeItIsNotGiven();
        promise17IsNotPaid();
        allOfThemInARow();
        CHECKS.end();
    }

    private static Tried tried(String name, Supplier<ProgressBilling> made, Tried.Call call) {
        return new Tried(CHECKS, name, made, call);
    }

    /** As Contracts.underWay: line 0 has the value 1000, 301 of work and 154 of goods. */
    private static Supplier<ProgressBilling> underWay() {
        return Contracts::underWay;
    }

    // ---- lines and changes

    private static ProgressBilling withFifteenLines() {
        ProgressBilling x = Contracts.underWay();
        for (int line = 3; line < 15; line++) {
            x.addLine(10);
        }
        return x;
    }

    private static void promise2ThereAre16Lines() {
        tried("addLine(#) with 15 lines", RefusalsTest::withFifteenLines, ProgressBilling::addLine)
            .answers(0, 15).answers(10000000, 15);
        tried("addLine(#) with 16 lines", Contracts::withAllLines, ProgressBilling::addLine)
            .throwsAt(Checks.REFUSED, 0, 1, 10000000);
        ProgressBilling x = Contracts.line(1000);
        for (int line = 1; line < 16; line++) {
            x.split(0, 1);
        }
        CHECKS.same("lines() of a line that was split 15 times", x.lines(), 16);
        tried("addLine(#) with 16 lines by splitting", () -> {
            ProgressBilling y = Contracts.lines(15, 10);
            y.split(14, 5);
            return y;
        }, ProgressBilling::addLine).throwsAt(Checks.REFUSED, 0, 1, 10000000);
    }

    private static void promise3ValueIsLessThanWhatTheLineHasEarned() {
        tried("changeValue(0, #)", underWay(), (x, value) -> x.changeValue(0, value))
            .answers(455, -545).answers(456, -544)
            .throwsAt(Checks.REFUSED, 0, 1, 154, 301, 400, 453, 454);
    }

    private static void promise3WhatWasEarnedByWorkAlone() {
        tried("changeValue(0, #) with work alone", () -> Contracts.at(600), (x, value) -> x.changeValue(0, value))
            .answers(600, -400)
            .throwsAt(Checks.REFUSED, 0, 599);
    }

    private static ProgressBilling withGoodsAlone() {
        ProgressBilling x = Contracts.line(10000000);
        x.store(0, 10000000);
        return x;
    }

    private static void promise3WhatWasEarnedByGoodsAlone() {
        tried("changeValue(0, #) with goods alone", RefusalsTest::withGoodsAlone, (x, value) -> x.changeValue(0, value))
            .answers(10000000, 0)
            .throwsAt(Checks.REFUSED, 0, 1, 9999999);
    }

    private static void promise4ThereAre16Lines() {
        tried("split(0, #) with 15 lines", RefusalsTest::withFifteenLines, (x, part) -> x.split(0, part))
            .answers(1, 15).answers(999, 15);
        tried("split(0, #) with 16 lines", Contracts::withAllLines, (x, part) -> x.split(0, part))
            .throwsAt(Checks.REFUSED, 1, 500, 999);
        tried("split(15, #) with 16 lines", Contracts::withAllLines, (x, part) -> x.split(15, part))
            .throwsAt(Checks.REFUSED, 1, 149);
    }

    // ---- work and goods

    private static void promise5TheWorkWouldBecomeLess() {
        tried("setWork(0, #)", underWay(), (x, share) -> x.setWork(0, share))
            .answers(301, 0).answers(302, 1)
            .throwsAt(Checks.REFUSED, 0, 1, 299, 300);
        tried("setWork(0, #) of the value 10000000", () -> {
            ProgressBilling x = Contracts.line(10000000);
            x.store(0, 10000);
            x.place(0, 9999);
            return x;
        }, (x, share) -> x.setWork(0, share)).answers(1, 1).throwsAt(Checks.REFUSED, 0);
        tried("setWork(0, #) of all of the work", () -> Contracts.at(1000), (x, share) -> x.setWork(0, share))
            .answers(1000, 0)
            .throwsAt(Checks.REFUSED, 0, 999);
    }

    private static Supplier<ProgressBilling> atSixHundredOf(int value) {
        return () -> {
            ProgressBilling x = Contracts.at(600);
            x.changeValue(0, value);
            return x;
        };
    }

    /** The share goes by the value behind the change order, and the work stays the cents that it was. */
    private static void promise5TheWorkWouldBecomeLessOfAChangedValue() {
        tried("setWork(0, #) of 800", atSixHundredOf(800), (x, share) -> x.setWork(0, share))
            .answers(750, 0).answers(1000, 200)
            .throwsAt(Checks.REFUSED, 600, 749);
        tried("setWork(0, #) of 2000", atSixHundredOf(2000), (x, share) -> x.setWork(0, share))
            .answers(300, 0).answers(600, 600)
            .throwsAt(Checks.REFUSED, 0, 299);
    }

    private static void promise5WouldHaveEarnedMoreThanItsValue() {
        tried("setWork(0, #)", underWay(), (x, share) -> x.setWork(0, share))
            .answers(845, 544).answers(846, 545)
            .throwsAt(Checks.REFUSED, 847, 848, 999, 1000);
        tried("setWork(0, #) of a value that is stored", RefusalsTest::withGoodsAlone, (x, share) -> x.setWork(0, share))
            .answers(0, 0)
            .throwsAt(Checks.REFUSED, 1, 1000);
    }

    private static void promise6WouldHaveEarnedMoreThanItsValue() {
        tried("store(0, #)", underWay(), (x, cents) -> x.store(0, cents))
            .answers(544, 698).answers(545, 699)
            .throwsAt(Checks.REFUSED, 546, 547, 1000, 10000000);
    }

    private static void promise6OfAValueThatIsEarned() {
        tried("store(0, #) of a value that is built", () -> Contracts.at(1000), (x, cents) -> x.store(0, cents))
            .throwsAt(Checks.REFUSED, 1, 10000000);
        tried("store(0, #) of a value that is stored", RefusalsTest::withGoodsAlone, (x, cents) -> x.store(0, cents))
            .throwsAt(Checks.REFUSED, 1, 10000000);
        tried("store(0, #) of a value that became what was earned", atSixHundredOf(600), (x, cents) -> x.store(0, cents))
            .throwsAt(Checks.REFUSED, 1, 400);
        tried("store(0, #) of a value that became 1 more", atSixHundredOf(601), (x, cents) -> x.store(0, cents))
            .answers(1, 1)
            .throwsAt(Checks.REFUSED, 2);
    }

    private static void promise7HasNotSoManyGoods() {
        tried("place(0, #)", underWay(), (x, cents) -> x.place(0, cents))
            .answers(153, 454).answers(154, 455)
            .throwsAt(Checks.REFUSED, 155, 156, 301, 455, 10000000);
        tried("place(0, #) without goods", () -> Contracts.at(1000), (x, cents) -> x.place(0, cents))
            .throwsAt(Checks.REFUSED, 1, 1000, 10000000);
        tried("place(0, #) of goods that are in place", () -> {
            ProgressBilling x = Contracts.underWay();
            x.place(0, 154);
            return x;
        }, (x, cents) -> x.place(0, cents)).throwsAt(Checks.REFUSED, 1, 154);
    }

    // ---- what is held

    private static void promise8ThereAre6Steps() {
        tried("setStep(#, 5) with 5 steps", () -> Contracts.steps(5), (x, threshold) -> x.setStep(threshold, 5))
            .answers(1000, ProgressBilling.NONE).answers(1, ProgressBilling.NONE);
        tried("setStep(#, 5) with 6 steps", Contracts::withAllSteps, (x, threshold) -> x.setStep(threshold, 5))
            .answers(0, 100).answers(1, 90).answers(300, 80).answers(500, 60).answers(999, 5).answers(1000, 0)
            .throwsAt(Checks.REFUSED, 2, 299, 301, 998);
        tried("setStep(#, 5) when one of 6 steps is dropped", () -> {
            ProgressBilling x = Contracts.withAllSteps();
            x.dropStep(300);
            return x;
        }, (x, threshold) -> x.setStep(threshold, 5)).answers(2, ProgressBilling.NONE).answers(300, ProgressBilling.NONE);
    }

    private static void promise9NoStepWithThisThreshold() {
        tried("dropStep(#)", Contracts::withAllSteps, ProgressBilling::dropStep)
            .answers(300, 80)
            .throwsAt(Checks.REFUSED, 2, 299, 301, 998);
        tried("dropStep(#) with the first step alone", ProgressBilling::new, ProgressBilling::dropStep)
            .throwsAt(Checks.REFUSED, 1, 1000);
        tried("dropStep(#) when 500 is dropped", () -> {
            ProgressBilling x = Contracts.withAllSteps();
            x.dropStep(500);
            return x;
        }, ProgressBilling::dropStep).answers(1000, 0).throwsAt(Checks.REFUSED, 500);
        tried("dropStep(#) when the last step is dropped", () -> {
            ProgressBilling x = Contracts.withAllSteps();
            x.dropStep(1000);
            return x;
        }, ProgressBilling::dropStep).answers(999, 5).throwsAt(Checks.REFUSED, 1000);
    }

    // ---- applications

    private static void promise14NoLines() {
        CHECKS.thrown("close() without lines", ProgressBilling::new, Checks.REFUSED, x -> x.close());
        CHECKS.thrown("close() without lines, with steps", () -> {
            ProgressBilling x = new ProgressBilling();
            x.setStep(500, 50);
            x.hold(true);
            return x;
        }, Checks.REFUSED, x -> x.close());
        CHECKS.same("close() with a line", Contracts.line(1).close(), 0);
        CHECKS.same("close() with a line of the value 0", Contracts.line(0).close(), 0);
    }

    private static void promise14SixtyApplications() {
        CHECKS.same("close() with 59 applications", Contracts.closed(59).close(), 59);
        CHECKS.thrown("close() with 60 applications", Contracts::withAllApplications, Checks.REFUSED, x -> x.close());
        CHECKS.thrown("close() with 60 applications, nothing new", () -> Contracts.closed(60), Checks.REFUSED, x -> x.close());
        CHECKS.thrown("close() with 60 applications, by the whole", () -> {
            ProgressBilling x = Contracts.withAllApplications();
            x.hold(false);
            return x;
        }, Checks.REFUSED, x -> x.close());
    }

    private static void promise16IsPaidOrWaived() {
        tried("pay(#) of WAIVED, PAID, CLOSED", Contracts::paidInPart, ProgressBilling::pay)
            .throwsAt(Checks.REFUSED, 0, 1);
        tried("pay(#) of PAID, CLOSED, CLOSED", () -> {
            ProgressBilling x = Contracts.closed(3);
            x.pay(0);
            return x;
        }, ProgressBilling::pay).throwsAt(Checks.REFUSED, 0);
        tried("pay(#) when all are WAIVED", () -> Contracts.waived(3, 3), ProgressBilling::pay)
            .throwsAt(Checks.REFUSED, 0, 1, 2);
    }

    private static void promise16WaiverBeforeItIsNotGiven() {
        tried("pay(#) of CLOSED, CLOSED, CLOSED", () -> Contracts.closed(3), ProgressBilling::pay)
            .answers(0, 90)
            .throwsAt(Checks.REFUSED, 1, 2);
        tried("pay(#) of PAID, CLOSED, CLOSED", () -> {
            ProgressBilling x = Contracts.closed(3);
            x.pay(0);
            return x;
        }, ProgressBilling::pay).throwsAt(Checks.REFUSED, 1, 2);
        tried("pay(#) of WAIVED, CLOSED, CLOSED", () -> Contracts.waived(3, 1), ProgressBilling::pay)
            .answers(1, 180)
            .throwsAt(Checks.REFUSED, 2);
        tried("pay(#) of WAIVED, PAID, CLOSED", Contracts::paidInPart, ProgressBilling::pay)
            .throwsAt(Checks.REFUSED, 2);
        tried("pay(#) of WAIVED, WAIVED, CLOSED", () -> Contracts.waived(3, 2), ProgressBilling::pay)
            .answers(2, 270);
        tried("pay(#) of 60, CLOSED", () -> Contracts.closed(60), ProgressBilling::pay)
            .answers(0, 90)
            .throwsAt(Checks.REFUSED, 1, 59);
        tried("pay(#) of 60, the first 58 WAIVED", () -> Contracts.waived(60, 58), ProgressBilling::pay)
            .answers(58, 90 * 59);
        CHECKS.same("the waiver of the one right before is asked for too", answerOfPay(Contracts.waived(60, 58), 59), "IllegalStateException");
    }

    /** Without the sheet: behind so many calls, too few are left of the 512 to ask for all. */
    private static String answerOfPay(ProgressBilling x, int application) {
        try {
            return Integer.toString(x.pay(application));
        } catch (RuntimeException e) {
            return e.getClass().getSimpleName();
        }
    }

    private static void promise17IsNotPaid() {
        tried("waive(#) of WAIVED, PAID, CLOSED", Contracts::paidInPart, ProgressBilling::waive)
            .answers(1, 2)
            .throwsAt(Checks.REFUSED, 0, 2);
        tried("waive(#) of CLOSED, CLOSED, CLOSED", () -> Contracts.closed(3), ProgressBilling::waive)
            .throwsAt(Checks.REFUSED, 0, 1, 2);
        tried("waive(#) of WAIVED, CLOSED, CLOSED", () -> Contracts.waived(3, 1), ProgressBilling::waive)
            .throwsAt(Checks.REFUSED, 0, 1, 2);
    }

    // ---- all of them

    private static final String[] ALL = {
        "addLine", "changeValue", "split", "setWork less", "setWork more", "store", "place", "setStep", "dropStep",
        "close", "pay PAID", "pay WAIVED", "pay before the waiver", "waive CLOSED", "waive WAIVED",
    };

    private static int refused(ProgressBilling x, int which) {
        switch (which) {
            case 0: return x.addLine(1);
            case 1: return x.changeValue(0, 454);
            case 2: return x.split(0, 500);
            case 3: return x.setWork(0, 300);
            case 4: return x.setWork(0, 847);
            case 5: return x.store(0, 546);
            case 6: return x.place(0, 155);
            case 7: return x.setStep(400, 40);
            case 8: return x.dropStep(400);
            case 9: return x.close();
            case 10: return x.pay(1);
            case 11: return x.pay(0);
            case 12: return x.pay(2);
            case 13: return x.waive(2);
            default: return x.waive(0);
        }
    }

    /** As Contracts.underWay, but full: 16 lines, 6 steps, 60 applications. */
    private static ProgressBilling full() {
        ProgressBilling x = Contracts.underWay();
        x.setStep(1, 90);
        x.setStep(999, 5);
        x.setStep(1000, 0);
        for (int line = 3; line < 16; line++) {
            x.addLine(10);
        }
        for (int application = 3; application < 60; application++) {
            x.close();
        }
        return x;
    }

    private static void allOfThemInARow() {
        ProgressBilling x = full();
        int before = x.nextAmount();
        for (int which = 0; which < ALL.length; which++) {
            String answer = "nothing";
            try {
                refused(x, which);
            } catch (RuntimeException e) {
                answer = e.getClass().getName();
            }
            CHECKS.same(ALL[which] + " on a full contract throws", answer, Checks.REFUSED.getName());
        }
        CHECKS.same("nextAmount() behind all of these", x.nextAmount(), before);
        String due = amounts(full());
        CHECKS.same("the amounts behind all of these", amounts(x), due);
    }

    private static String amounts(ProgressBilling x) {
        StringBuilder text = new StringBuilder();
        for (int line = 0; line < x.lines(); line++) {
            text.append(x.value(line)).append(' ').append(x.work(line)).append(' ').append(x.goods(line)).append(' ');
            text.append(x.billed(line)).append(' ').append(x.held(line)).append(';');
        }
        for (int application = 0; application < x.applications(); application++) {
            text.append(x.state(application)).append(' ').append(x.amount(application)).append(';');
        }
        return text.append(x.steps()).append(' ').append(x.rate()).append(' ').append(x.hold(false)).toString();
    }
}
