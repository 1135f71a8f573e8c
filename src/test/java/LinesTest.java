import java.util.function.Supplier;

/** Lines and changes: promises 2 to 4, and the sheets lines, value and contractSum: 23, 24, 30. */
final class LinesTest {
    private static final Checks CHECKS = new Checks("lines");

    public static void main(String[] args) {
        promise2AddLine();
        promise2Throws();
        promise3ChangeValue();
        promise3Throws();
        promise4Split();
        promise4EachIsRoundedDown();
        promise4GoodsAreWhatIsEarnedLessWork();
        promise4KeepsWhatIsBilledNext();
        promise4AtTheEdges();
        promise4Throws();
        promises23And24And30();
        CHECKS.end();
    }

    private static ProgressBilling withLines(int count, int value) {
        ProgressBilling x = new ProgressBilling();
        for (int line = 0; line < count; line++) {
            x.addLine(value);
        }
        return x;
    }

    /** One line with work, goods, a billed and a held amount, and more earned since. */
    private static ProgressBilling underWay() {
        ProgressBilling x = withLines(1, 1000);
        x.setWork(0, 300);
        x.store(0, 100);
        x.close();
        x.store(0, 50);
        return x;
    }

    private static void promise2AddLine() {
        ProgressBilling x = new ProgressBilling();
        for (int line = 0; line < 16; line++) {
            int value = line == 0 ? 0 : line == 1 ? 10000000 : 100 + line;
            CHECKS.same("addLine of line " + line, x.addLine(value), line);
            CHECKS.same("value of line " + line, x.value(line), value);
            CHECKS.same("work of line " + line, x.work(line), 0);
            CHECKS.same("goods of line " + line, x.goods(line), 0);
            CHECKS.same("billed of line " + line, x.billed(line), 0);
            CHECKS.same("held of line " + line, x.held(line), 0);
            CHECKS.same("lines behind line " + line, x.lines(), line + 1);
        }
        CHECKS.same("addLine behind a closing", underWay().addLine(7), 1);
    }

    private static void promise2Throws() {
        Supplier<ProgressBilling> full = () -> withLines(16, 10);
        for (int value : Numbers.and(Checks.FAR_OUT, -1, 10000001)) {
            CHECKS.thrown("addLine(" + value + ")", ProgressBilling::new, Checks.OUT_OF_RANGE, x -> x.addLine(value));
            CHECKS.thrown("addLine(" + value + ") with 16 lines", full, Checks.OUT_OF_RANGE, x -> x.addLine(value));
        }
        CHECKS.thrown("addLine(0) with 16 lines", full, Checks.REFUSED, x -> x.addLine(0));
        CHECKS.thrown("addLine(10000000) with 16 lines", full, Checks.REFUSED, x -> x.addLine(10000000));
    }

    private static void promise3ChangeValue() {
        ProgressBilling x = underWay();
        CHECKS.same("changeValue(0, 1500)", x.changeValue(0, 1500), 500);
        CHECKS.same("value(0)", x.value(0), 1500);
        CHECKS.same("changeValue(0, 1500) again", x.changeValue(0, 1500), 0);
        CHECKS.same("changeValue to what is earned", x.changeValue(0, 450), -1050);
        CHECKS.same("value(0)", x.value(0), 450);
        CHECKS.same("changeValue to the greatest", x.changeValue(0, 10000000), 9999550);
        CHECKS.same("work(0) stays", x.work(0), 300);
        CHECKS.same("goods(0) stay", x.goods(0), 150);
        CHECKS.same("billed(0) stays", x.billed(0), 400);
        CHECKS.same("held(0) stays", x.held(0), 40);
        ProgressBilling y = withLines(3, 10000000);
        CHECKS.same("changeValue from the greatest to 0", y.changeValue(1, 0), -10000000);
        CHECKS.same("value(0) stays", y.value(0), 10000000);
        CHECKS.same("value(1)", y.value(1), 0);
        CHECKS.same("changeValue from 0", y.changeValue(1, 10000000), 10000000);
    }

    private static void promise3Throws() {
        Supplier<ProgressBilling> made = LinesTest::underWay;
        for (int line : Numbers.and(Checks.FAR_OUT, -1, 1, 2, 15, 16)) {
            CHECKS.thrown("changeValue(" + line + ", 5)", made, Checks.NO_SUCH, x -> x.changeValue(line, 5));
            CHECKS.thrown("changeValue(" + line + ", -1)", made, Checks.NO_SUCH, x -> x.changeValue(line, -1));
        }
        for (int value : Numbers.and(Checks.FAR_OUT, -1, 10000001)) {
            CHECKS.thrown("changeValue(0, " + value + ")", made, Checks.OUT_OF_RANGE, x -> x.changeValue(0, value));
        }
        CHECKS.thrown("changeValue to less than is earned", made, Checks.REFUSED, x -> x.changeValue(0, 449));
        CHECKS.thrown("changeValue to the work alone", made, Checks.REFUSED, x -> x.changeValue(0, 300));
        CHECKS.thrown("changeValue to 0", made, Checks.REFUSED, x -> x.changeValue(0, 0));
    }

    private static void promise4Split() {
        ProgressBilling x = underWay();
        x.addLine(77);
        CHECKS.same("split(0, 250)", x.split(0, 250), 2);
        CHECKS.same("lines()", x.lines(), 3);
        CHECKS.same("value(0)", x.value(0), 750);
        CHECKS.same("value(2)", x.value(2), 250);
        CHECKS.same("work(0)", x.work(0), 225);
        CHECKS.same("work(2)", x.work(2), 75);
        CHECKS.same("goods(0)", x.goods(0), 113);
        CHECKS.same("goods(2), 112 of earned less 75", x.goods(2), 37);
        CHECKS.same("billed(0)", x.billed(0), 300);
        CHECKS.same("billed(2)", x.billed(2), 100);
        CHECKS.same("held(0)", x.held(0), 30);
        CHECKS.same("held(2)", x.held(2), 10);
        CHECKS.same("value(1) stays", x.value(1), 77);
        CHECKS.same("contractSum() stays", x.contractSum(), 1077);
    }

    private static void promise4EachIsRoundedDown() {
        ProgressBilling x = withLines(1, 7);
        x.setStep(0, 500);
        x.setWork(0, 700);
        x.store(0, 1);
        x.close();
        x.store(0, 1);
        CHECKS.same("split(0, 4)", x.split(0, 4), 1);
        CHECKS.same("work(1), 5 * 4 / 7", x.work(1), 2);
        CHECKS.same("work(0)", x.work(0), 3);
        CHECKS.same("goods(1), 7 * 4 / 7 less 2", x.goods(1), 2);
        CHECKS.same("goods(0)", x.goods(0), 0);
        CHECKS.same("billed(1), 6 * 4 / 7", x.billed(1), 3);
        CHECKS.same("billed(0)", x.billed(0), 3);
        CHECKS.same("held(1), 3 * 4 / 7", x.held(1), 1);
        CHECKS.same("held(0)", x.held(0), 2);
    }

    private static ProgressBilling withGoodsThatDoNotSplit() {
        ProgressBilling x = withLines(1, 3);
        x.setWork(0, 667);
        x.store(0, 1);
        x.split(0, 1);
        return x;
    }

    /** The goods by themselves, rounded down, would be 1 * 1 / 3, which is 0 for the new line. */
    private static void promise4GoodsAreWhatIsEarnedLessWork() {
        ProgressBilling x = withGoodsThatDoNotSplit();
        CHECKS.same("work(1)", x.work(1), 0);
        CHECKS.same("goods(1)", x.goods(1), 1);
        CHECKS.same("work(0)", x.work(0), 2);
        CHECKS.same("goods(0)", x.goods(0), 0);
        CHECKS.same("placing the goods of the new line", x.place(1, 1), 1);
        CHECKS.thrown("place(0, 1)", LinesTest::withGoodsThatDoNotSplit, Checks.REFUSED, y -> y.place(0, 1));
    }

    private static void promise4KeepsWhatIsBilledNext() {
        ProgressBilling x = underWay();
        x.split(0, 333);
        x.hold(true);
        CHECKS.same("nextAmount() by the increase", x.nextAmount(), 45);
        CHECKS.same("close()", x.close(), 1);
        CHECKS.same("amount(1)", x.amount(1), 45);
        CHECKS.same("billedBehind(1)", x.billedBehind(1), 450);
        CHECKS.same("heldBehind(1)", x.heldBehind(1), 45);
    }

    private static void promise4AtTheEdges() {
        ProgressBilling x = withLines(1, 10000000);
        x.setWork(0, 1000);
        x.close();
        CHECKS.same("split(0, 9999999)", x.split(0, 9999999), 1);
        CHECKS.same("work(0)", x.work(0), 1);
        CHECKS.same("work(1)", x.work(1), 9999999);
        CHECKS.same("billed(1)", x.billed(1), 9999999);
        CHECKS.same("held(1)", x.held(1), 999999);
        CHECKS.same("held(0)", x.held(0), 1);
        CHECKS.same("split(1, 1)", x.split(1, 1), 2);
        CHECKS.same("value(1)", x.value(1), 9999998);
        CHECKS.same("value(2)", x.value(2), 1);
        CHECKS.same("work(2)", x.work(2), 1);
        ProgressBilling y = withLines(15, 2);
        CHECKS.same("split(14, 1) is line 15", y.split(14, 1), 15);
        CHECKS.same("value(15)", y.value(15), 1);
        CHECKS.same("value(14)", y.value(14), 1);
    }

    private static void promise4Throws() {
        Supplier<ProgressBilling> made = LinesTest::underWay;
        Supplier<ProgressBilling> full = () -> withLines(16, 10);
        for (int line : Numbers.and(Checks.FAR_OUT, -1, 1, 16)) {
            CHECKS.thrown("split(" + line + ", 5)", made, Checks.NO_SUCH, x -> x.split(line, 5));
            CHECKS.thrown("split(" + line + ", 0)", made, Checks.NO_SUCH, x -> x.split(line, 0));
        }
        CHECKS.thrown("split(16, 0) with 16 lines", full, Checks.NO_SUCH, x -> x.split(16, 0));
        for (int part : Numbers.and(Checks.FAR_OUT, -1, 0, 1000, 1001)) {
            CHECKS.thrown("split(0, " + part + ")", made, Checks.OUT_OF_RANGE, x -> x.split(0, part));
            CHECKS.thrown("split(3, " + part + ") with 16 lines", full, Checks.OUT_OF_RANGE, x -> x.split(3, part));
        }
        CHECKS.thrown("split(3, 10) with 16 lines", full, Checks.OUT_OF_RANGE, x -> x.split(3, 10));
        CHECKS.thrown("split(3, 1) with 16 lines", full, Checks.REFUSED, x -> x.split(3, 1));
        CHECKS.thrown("split(15, 9) with 16 lines", full, Checks.REFUSED, x -> x.split(15, 9));
        for (int part = -1; part <= 1; part++) {
            int asked = part;
            CHECKS.thrown("split(0, " + part + ") of the value 0", () -> withLines(1, 0), Checks.OUT_OF_RANGE, x -> x.split(0, asked));
            CHECKS.thrown("split(0, " + part + ") of the value 1", () -> withLines(1, 1), Checks.OUT_OF_RANGE, x -> x.split(0, asked));
        }
    }

    private static void promises23And24And30() {
        ProgressBilling x = withLines(16, 10000000);
        CHECKS.same("lines()", x.lines(), 16);
        CHECKS.same("contractSum()", x.contractSum(), 160000000);
        x.changeValue(15, 1);
        CHECKS.same("value(15)", x.value(15), 1);
        CHECKS.same("value(14)", x.value(14), 10000000);
        CHECKS.same("contractSum()", x.contractSum(), 150000001);
        CHECKS.same("contractSum() of zeroes", withLines(3, 0).contractSum(), 0);
        for (int line : Numbers.and(Checks.FAR_OUT, -1, 16)) {
            CHECKS.thrown("value(" + line + ")", () -> withLines(16, 5), Checks.NO_SUCH, y -> y.value(line));
        }
        CHECKS.thrown("value(1) of 1 line", LinesTest::underWay, Checks.NO_SUCH, y -> y.value(1));
    }
}
