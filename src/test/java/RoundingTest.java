import java.math.BigDecimal;
import java.math.RoundingMode;

/**
 * What is rounded: at a half, and beside it; what is divided and rounded down: at a whole number, and
 * beside it; and products that are greater than an int.
 */
final class RoundingTest {
    private static final int[] GREAT = {9999999, 9999998, 9999997, 9999995, 5000001, 3333333, 2147484, 2147483, 1001};

    private static final Checks CHECKS = new Checks("rounding");

    public static void main(String[] args) {
        promise5AtAHalf();
        promise5BesideAHalf();
        promise5GreatValues();
        promise14ByTheWholeAtAHalf();
        promise14ByTheWholeBesideAHalf();
        promise14ByTheIncreaseAtAHalf();
        promise14ByTheIncreaseBesideAHalf();
        promise14TheIncreaseIsRoundedAndNotTheWhole();
        promise14EachLineIsRounded();
        promise14GreatAmounts();
        promise15IsRoundedAsTheClosing();
        promise4EarnedIsRoundedDown();
        promise4WorkIsRoundedDown();
        promise4BilledIsRoundedDown();
        promise4HeldIsRoundedDown();
        promise4GreatAmounts();
        promise12IsRoundedDown();
        promise12GreatSums();
        promise29IsNotRounded();
        sumsOfTheGreatestLines();
        CHECKS.end();
    }

    /** amount * share / 1000 in numbers without bounds. */
    private static int nearest(int amount, int share) {
        return BigDecimal.valueOf(amount).multiply(BigDecimal.valueOf(share)).movePointLeft(3).setScale(0, RoundingMode.HALF_UP).intValueExact();
    }

    // ---- setWork: rounded

    private static void work(int value, int share, int due) {
        CHECKS.same(value + " * " + share + " / 1000", Contracts.line(value).setWork(0, share), due);
    }

    /** Halves up, whether the whole number below is even or odd. */
    private static void promise5AtAHalf() {
        work(1, 500, 1);
        work(3, 500, 2);
        work(5, 500, 3);
        work(7, 500, 4);
        work(2, 250, 1);
        work(2, 750, 2);
        work(4, 125, 1);
        work(4, 375, 2);
        work(4, 625, 3);
        work(500, 1, 1);
        work(500, 999, 500);
        work(1500, 1, 2);
        work(2500, 1, 3);
        work(9999999, 500, 5000000);
        work(9999500, 1, 10000);
    }

    private static void promise5BesideAHalf() {
        work(1, 499, 0);
        work(1, 501, 1);
        work(3, 499, 1);
        work(3, 501, 2);
        work(499, 1, 0);
        work(501, 1, 1);
        work(1499, 1, 1);
        work(1501, 1, 2);
        work(499, 999, 499);
        work(501, 999, 500);
        work(9999499, 1, 9999);
        work(9999501, 1, 10000);
    }

    private static void promise5GreatValues() {
        for (int value : GREAT) {
            for (int share : new int[] {1, 215, 333, 499, 500, 501, 667, 999, 1000}) {
                work(value, share, nearest(value, share));
            }
        }
    }

    // ---- close: rounded

    /** A line that has earned so much, at the rate; by the whole and by the increase, if nothing was billed. */
    private static void heldOf(boolean byIncrease, int earned, int rate, int due) {
        ProgressBilling x = Contracts.line(10000000);
        x.hold(byIncrease);
        x.setStep(0, rate);
        x.store(0, earned);
        int next = x.nextAmount();
        x.close();
        String what = earned + " at " + rate + (byIncrease ? ", by the increase" : ", by the whole");
        CHECKS.same("held of " + what, x.held(0), due);
        CHECKS.same("heldBehind of " + what, x.heldBehind(0), due);
        CHECKS.same("amount of " + what, x.amount(0), earned - due);
        CHECKS.same("nextAmount before the closing of " + what, next, earned - due);
    }

    private static void atAHalf(boolean byIncrease) {
        heldOf(byIncrease, 5, 100, 1);
        heldOf(byIncrease, 15, 100, 2);
        heldOf(byIncrease, 25, 100, 3);
        heldOf(byIncrease, 1, 500, 1);
        heldOf(byIncrease, 3, 500, 2);
        heldOf(byIncrease, 500, 1, 1);
        heldOf(byIncrease, 1500, 1, 2);
        heldOf(byIncrease, 500, 999, 500);
        heldOf(byIncrease, 9999995, 100, 1000000);
        heldOf(byIncrease, 9999999, 500, 5000000);
    }

    private static void besideAHalf(boolean byIncrease) {
        heldOf(byIncrease, 4, 100, 0);
        heldOf(byIncrease, 6, 100, 1);
        heldOf(byIncrease, 14, 100, 1);
        heldOf(byIncrease, 16, 100, 2);
        heldOf(byIncrease, 1, 499, 0);
        heldOf(byIncrease, 1, 501, 1);
        heldOf(byIncrease, 499, 1, 0);
        heldOf(byIncrease, 501, 1, 1);
        heldOf(byIncrease, 9999994, 100, 999999);
        heldOf(byIncrease, 9999996, 100, 1000000);
        heldOf(byIncrease, 1, 0, 0);
        heldOf(byIncrease, 9999999, 0, 0);
        heldOf(byIncrease, 1, 1000, 1);
        heldOf(byIncrease, 9999999, 1000, 9999999);
    }

    private static void promise14ByTheWholeAtAHalf() {
        atAHalf(false);
    }

    private static void promise14ByTheWholeBesideAHalf() {
        besideAHalf(false);
    }

    private static void promise14ByTheIncreaseAtAHalf() {
        atAHalf(true);
    }

    private static void promise14ByTheIncreaseBesideAHalf() {
        besideAHalf(true);
    }

    /** Each 5 at 100 are 0.5, and hold 1 more; the difference of what the whole would hold is 1, 0, 1, 0. */
    private static void promise14TheIncreaseIsRoundedAndNotTheWhole() {
        ProgressBilling x = Contracts.line(1000);
        x.hold(true);
        for (int closing = 1; closing <= 4; closing++) {
            x.store(0, 5);
            CHECKS.same("nextAmount() of 5 more", x.nextAmount(), 4);
            x.close();
            CHECKS.same("held(0) by the increase", x.held(0), closing);
        }
        // 4 at 100 are 0.4, which adds nothing; 1 more adds nothing either, though 25 at 100 would be a half.
        x.store(0, 4);
        x.close();
        CHECKS.same("held(0) of 4 more", x.held(0), 4);
        x.store(0, 1);
        x.close();
        CHECKS.same("held(0) of 1 more", x.held(0), 4);
        x.hold(false);
        x.close();
        CHECKS.same("held(0) by the whole, 25 at 100", x.held(0), 3);
        CHECKS.same("the amount of that closing", x.amount(6), 1);
    }

    private static void promise14EachLineIsRounded() {
        for (boolean byIncrease : new boolean[] {false, true}) {
            ProgressBilling x = Contracts.lines(16, 1000);
            x.hold(byIncrease);
            for (int line = 0; line < 16; line++) {
                x.store(line, line < 8 ? 5 : 4);
            }
            CHECKS.same("nextAmount() of 72", x.nextAmount(), 64);
            x.close();
            CHECKS.same("heldBehind(0): 8 halves up, 8 below a half", x.heldBehind(0), 8);
            CHECKS.same("amount(0)", x.amount(0), 64);
        }
    }

    private static void promise14GreatAmounts() {
        for (int earned : GREAT) {
            for (int rate : new int[] {1, 215, 333, 500, 667, 999, 1000}) {
                heldOf(false, earned, rate, nearest(earned, rate));
                heldOf(true, earned, rate, nearest(earned, rate));
            }
        }
    }

    private static void promise15IsRoundedAsTheClosing() {
        ProgressBilling x = Contracts.lines(3, 1000);
        x.store(0, 5);
        x.store(1, 15);
        x.store(2, 14);
        CHECKS.same("nextAmount(), 34 less 1, 2 and 1", x.nextAmount(), 30);
        x.close();
        CHECKS.same("amount(0)", x.amount(0), 30);
        x.store(0, 5);
        x.store(1, 4);
        x.store(2, 6);
        CHECKS.same("nextAmount() by the whole, 49 less 1, 2, 2 and 30", x.nextAmount(), 14);
        x.hold(true);
        CHECKS.same("nextAmount() by the increase, 49 less 2, 2, 2 and 30", x.nextAmount(), 13);
        x.close();
        CHECKS.same("amount(1)", x.amount(1), 13);
    }

    // ---- split: rounded down

    /** A line of 7 that is split into 3 and 4: amount * 3 / 7, rounded down, and the rest. */
    private static final int[] THREE_SEVENTHS = {0, 0, 0, 1, 1, 2, 2, 3};

    private static void promise4EarnedIsRoundedDown() {
        for (int earned = 1; earned <= 7; earned++) {
            ProgressBilling x = Contracts.line(7);
            x.store(0, earned);
            x.split(0, 3);
            CHECKS.same("goods(1), " + earned + " * 3 / 7", x.goods(1), THREE_SEVENTHS[earned]);
            CHECKS.same("goods(0), the rest", x.goods(0), earned - THREE_SEVENTHS[earned]);
            CHECKS.same("work(1)", x.work(1), 0);
        }
    }

    private static void promise4WorkIsRoundedDown() {
        for (int work = 1; work <= 7; work++) {
            ProgressBilling x = Contracts.line(7);
            x.store(0, 7);
            x.place(0, work);
            x.split(0, 3);
            CHECKS.same("work(1), " + work + " * 3 / 7", x.work(1), THREE_SEVENTHS[work]);
            CHECKS.same("work(0), the rest", x.work(0), work - THREE_SEVENTHS[work]);
            CHECKS.same("goods(1), what is earned less that", x.goods(1), 3 - THREE_SEVENTHS[work]);
            CHECKS.same("goods(0)", x.goods(0), 4 - (work - THREE_SEVENTHS[work]));
        }
    }

    private static void promise4BilledIsRoundedDown() {
        for (int billed = 1; billed <= 7; billed++) {
            ProgressBilling x = Contracts.line(7);
            x.store(0, billed);
            x.close();
            x.split(0, 3);
            CHECKS.same("billed(1), " + billed + " * 3 / 7", x.billed(1), THREE_SEVENTHS[billed]);
            CHECKS.same("billed(0), the rest", x.billed(0), billed - THREE_SEVENTHS[billed]);
            CHECKS.same("held(1)", x.held(1), 0);
        }
    }

    private static void promise4HeldIsRoundedDown() {
        for (int held = 1; held <= 7; held++) {
            ProgressBilling x = Contracts.line(7);
            x.setStep(0, 1000);
            x.store(0, held);
            x.close();
            x.split(0, 3);
            CHECKS.same("held(1), " + held + " * 3 / 7", x.held(1), THREE_SEVENTHS[held]);
            CHECKS.same("held(0), the rest", x.held(0), held - THREE_SEVENTHS[held]);
        }
    }

    /** By the value of the line before the split, which is greater than what is earned; products of up to 10^14. */
    private static void promise4GreatAmounts() {
        int[] parts = {1, 2147, 3333333, 5000000, 6666667, 9999998};
        for (int part : parts) {
            ProgressBilling x = Contracts.line(9999999);
            x.setStep(0, 999);
            x.store(0, 9999998);
            x.place(0, 9999996);
            x.close();
            x.store(0, 1);
            x.split(0, part);
            int work = (int) (9999996L * part / 9999999);
            int billed = (int) (9999998L * part / 9999999);
            int held = (int) (9989998L * part / 9999999);
            CHECKS.same("work(1) of the part " + part, x.work(1), work);
            CHECKS.same("goods(1) of the part " + part, x.goods(1), part - work);
            CHECKS.same("billed(1) of the part " + part, x.billed(1), billed);
            CHECKS.same("held(1) of the part " + part, x.held(1), held);
            CHECKS.same("work(0)", x.work(0), 9999996 - work);
            CHECKS.same("goods(0)", x.goods(0), 3 - (part - work));
            CHECKS.same("billed(0)", x.billed(0), 9999998 - billed);
            CHECKS.same("held(0)", x.held(0), 9989998 - held);
        }
    }

    // ---- progress: rounded down

    private static void progress(int work, int value, int due) {
        ProgressBilling x = Contracts.line(value);
        x.store(0, work);
        x.place(0, work);
        CHECKS.same(work + " * 1000 / " + value, x.progress(), due);
    }

    private static void promise12IsRoundedDown() {
        progress(1, 1000, 1);
        progress(1, 1001, 0);
        progress(1, 999, 1);
        progress(1, 501, 1);
        progress(1, 500, 2);
        progress(1, 3, 333);
        progress(2, 3, 666);
        progress(3, 3, 1000);
        progress(9999999, 10000000, 999);
        progress(1, 10000000, 0);
        progress(9999, 10000000, 0);
        progress(10000, 10000000, 1);
        progress(10001, 10000000, 1);
        progress(10000000, 10000000, 1000);
        // 2147484 * 1000 is greater than an int.
        progress(2147484, 10000000, 214);
        progress(2147484, 2147484, 1000);
    }

    /** Of the sums, and not the sum of what each line has of it. */
    private static void promise12GreatSums() {
        ProgressBilling x = Contracts.lines(16, 10000000);
        CHECKS.same("progress() of nothing", x.progress(), 0);
        for (int line = 0; line < 16; line++) {
            x.setWork(line, 1000);
            CHECKS.same("progress() with line " + line, x.progress(), 125 * (line + 1) / 2);
        }
        ProgressBilling y = Contracts.lines(16, 10000000);
        for (int line = 0; line < 16; line++) {
            y.store(line, 9999999);
            y.place(line, 9999999);
        }
        CHECKS.same("progress() of all but 16 cents", y.progress(), 999);
        ProgressBilling z = Contracts.lines(3, 1);
        z.setWork(0, 1000);
        CHECKS.same("progress() of 1, 0 and 0 of 3", z.progress(), 333);
        z.setWork(1, 1000);
        CHECKS.same("progress() of 1, 1 and 0 of 3", z.progress(), 666);
    }

    // ---- lineByShare: not rounded

    /** The shares of these two lines lie beside each other by less than 10^-13. */
    private static void promise29IsNotRounded() {
        int[][] pairs = {{9999998, 9999999, 9999999, 10000000}, {4999999, 9999999, 5000000, 10000000}, {1, 10000000, 1, 9999999}};
        for (int[] pair : pairs) {
            ProgressBilling x = new ProgressBilling();
            for (int at = 0; at < 4; at += 2) {
                int line = x.addLine(pair[at + 1]);
                x.store(line, pair[at]);
                x.place(line, pair[at]);
            }
            String what = pair[0] + " of " + pair[1] + " is less than " + pair[2] + " of " + pair[3];
            CHECKS.same(what, x.lineByShare(0), 1);
            CHECKS.same(what, x.lineByShare(1), 0);
        }
        ProgressBilling same = new ProgressBilling();
        int[] values = {9999999, 3333333, 6666666};
        for (int line = 0; line < 3; line++) {
            same.addLine(values[line]);
            same.store(line, values[line] / 3);
            same.place(line, values[line] / 3);
            CHECKS.same("the same share: lineByShare(" + line + ")", same.lineByShare(line), line);
        }
    }

    // ---- sums

    /** 16 lines of 10000000: no sum of these wraps around, and no amount. */
    private static void sumsOfTheGreatestLines() {
        ProgressBilling x = Contracts.lines(16, 10000000);
        for (int line = 0; line < 16; line++) {
            x.store(line, 10000000);
        }
        CHECKS.same("contractSum()", x.contractSum(), 160000000);
        for (int closing = 0; closing < 60; closing++) {
            boolean all = closing % 2 == 1;
            x.setStep(0, all ? 1000 : 0);
            int due = all ? -160000000 : 160000000;
            CHECKS.same("nextAmount()", x.nextAmount(), due);
            x.close();
            CHECKS.same("amount(" + closing + ")", x.amount(closing), due);
            CHECKS.same("billedBehind(" + closing + ")", x.billedBehind(closing), 160000000);
            CHECKS.same("heldBehind(" + closing + ")", x.heldBehind(closing), all ? 160000000 : 0);
        }
        x.pay(0);
        CHECKS.same("paid()", x.paid(), 160000000);
        CHECKS.same("toCome()", x.toCome(), 0);
        x.waive(0);
        CHECKS.same("pay(1)", x.pay(1), -160000000);
        CHECKS.same("paid()", x.paid(), 0);
        CHECKS.same("toCome()", x.toCome(), 160000000);
    }
}
