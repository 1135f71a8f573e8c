/** Lines and changes: promises 2 to 4, and the sheets lines, value and contractSum: 23, 24, 30. */
final class LinesTest {
    private static final Checks CHECKS = new Checks("lines");

    public static void main(String[] args) {
        promise2AddLine();
        promise3ChangeValue();
        promise4Split();
        promise4EachIsRoundedDown();
        promise4GoodsAreWhatIsEarnedLessWork();
        promise4KeepsWhatIsBilledNext();
        promise4AtTheEdges();
        promises23And24And30();
        CHECKS.end();
    }

    /** One line with work, goods, a billed and a held amount, and more earned since. */
    private static ProgressBilling underWay() {
        ProgressBilling x = Contracts.lines(1, 1000);
        x.setWork(0, 300);
        x.store(0, 100);
        x.close();
        x.store(0, 50);
        return x;
    }

    private static void promise2AddLine() {
        ProgressBilling x = new ProgressBilling();
        for (int line = 0; line < 16; line++) {
            int value = line == 0 ? 0 : line == 1 ? 10000000 : 100 + line;
            CHECKS.same("addLine of line " + line, x.addLine(value), line);
            CHECKS.same("value of line " + line, x.value(line), value);
            CHECKS.same("work of line " + line, x.work(line), 0);
            CHECKS.same("goods of line " + line, x.goods(line), 0);
            CHECKS.same("billed of line " + line, x.billed(line), 0);
            CHECKS.same("held of line " + line, x.held(line), 0);
            CHECKS.same("lines behind line " + line, x.lines(), line + 1);
        }
        CHECKS.same("addLine behind a closing", underWay().addLine(7), 1);
    }

    private static void promise3ChangeValue() {
        ProgressBilling x = underWay();
        CHECKS.same("changeValue(0, 1500)", x.changeValue(0, 1500), 500);
        CHECKS.same("value(0)", x.value(0), 1500);
        CHECKS.same("changeValue(0, 1500) again", x.changeValue(0, 1500), 0);
        CHECKS.same("changeValue to what is earned", x.changeValue(0, 450), -1050);
        CHECKS.same("value(0)", x.value(0), 450);
        CHECKS.same("changeValue to the greatest", x.changeValue(0, 10000000), 9999550);
        CHECKS.same("work(0) stays", x.work(0), 300);
        CHECKS.same("goods(0) stay", x.goods(0), 150);
        CHECKS.same("billed(0) stays", x.billed(0), 400);
        CHECKS.same("held(0) stays", x.held(0), 40);
        ProgressBilling y = Contracts.lines(3, 10000000);
        CHECKS.same("changeValue from the greatest to 0", y.changeValue(1, 0), -10000000);
        CHECKS.same("value(0) stays", y.value(0), 10000000);
        CHECKS.same("value(1)", y.value(1), 0);
        CHECKS.same("changeValue from 0", y.changeValue(1, 10000000), 10000000);
    }

    private static void promise4Split() {
        ProgressBilling x = underWay();
        x.addLine(77);
        CHECKS.same("split(0, 250)", x.split(0, 250), 2);
        CHECKS.same("lines()", x.lines(), 3);
        CHECKS.same("value(0)", x.value(0), 750);
        CHECKS.same("value(2)", x.value(2), 250);
        CHECKS.same("work(0)", x.work(0), 225);
        CHECKS.same("work(2)", x.work(2), 75);
        CHECKS.same("goods(0)", x.goods(0), 113);
        CHECKS.same("goods(2), 112 of earned less 75", x.goods(2), 37);
        CHECKS.same("billed(0)", x.billed(0), 300);
        CHECKS.same("billed(2)", x.billed(2), 100);
        CHECKS.same("held(0)", x.held(0), 30);
        CHECKS.same("held(2)", x.held(2), 10);
        CHECKS.same("value(1) stays", x.value(1), 77);
        CHECKS.same("contractSum() stays", x.contractSum(), 1077);
    }

    private static void promise4EachIsRoundedDown() {
        ProgressBilling x = Contracts.lines(1, 7);
        x.setStep(0, 500);
        x.setWork(0, 700);
        x.store(0, 1);
        x.close();
        x.store(0, 1);
        CHECKS.same("split(0, 4)", x.split(0, 4), 1);
        CHECKS.same("work(1), 5 * 4 / 7", x.work(1), 2);
        CHECKS.same("work(0)", x.work(0), 3);
        CHECKS.same("goods(1), 7 * 4 / 7 less 2", x.goods(1), 2);
        CHECKS.same("goods(0)", x.goods(0), 0);
        CHECKS.same("billed(1), 6 * 4 / 7", x.billed(1), 3);
        CHECKS.same("billed(0)", x.billed(0), 3);
        CHECKS.same("held(1), 3 * 4 / 7", x.held(1), 1);
        CHECKS.same("held(0)", x.held(0), 2);
    }

    private static ProgressBilling withGoodsThatDoNotSplit() {
        ProgressBilling x = Contracts.lines(1, 3);
        x.setWork(0, 667);
        x.store(0, 1);
        x.split(0, 1);
        return x;
    }

    /** The goods by themselves, rounded down, would be 1 * 1 / 3, which is 0 for the new line. */
    private static void promise4GoodsAreWhatIsEarnedLessWork() {
        ProgressBilling x = withGoodsThatDoNotSplit();
        CHECKS.same("work(1)", x.work(1), 0);
        CHECKS.same("goods(1)", x.goods(1), 1);
        CHECKS.same("work(0)", x.work(0), 2);
        CHECKS.same("goods(0)", x.goods(0), 0);
        CHECKS.same("placing the goods of the new line", x.place(1, 1), 1);
        CHECKS.thrown("place(0, 1)", LinesTest::withGoodsThatDoNotSplit, Checks.REFUSED, y -> y.place(0, 1));
    }

    private static void promise4KeepsWhatIsBilledNext() {
        ProgressBilling x = underWay();
        x.split(0, 333);
        x.hold(true);
        CHECKS.same("nextAmount() by the increase", x.nextAmount(), 45);
        CHECKS.same("close()", x.close(), 1);
        CHECKS.same("amount(1)", x.amount(1), 45);
        CHECKS.same("billedBehind(1)", x.billedBehind(1), 450);
        CHECKS.same("heldBehind(1)", x.heldBehind(1), 45);
    }

    private static void promise4AtTheEdges() {
        ProgressBilling x = Contracts.lines(1, 10000000);
        x.setWork(0, 1000);
        x.close();
        CHECKS.same("split(0, 9999999)", x.split(0, 9999999), 1);
        CHECKS.same("work(0)", x.work(0), 1);
        CHECKS.same("work(1)", x.work(1), 9999999);
        CHECKS.same("billed(1)", x.billed(1), 9999999);
        CHECKS.same("held(1)", x.held(1), 999999);
        CHECKS.same("held(0)", x.held(0), 1);
        CHECKS.same("split(1, 1)", x.split(1, 1), 2);
        CHECKS.same("value(1)", x.value(1), 9999998);
        CHECKS.same("value(2)", x.value(2), 1);
        CHECKS.same("work(2)", x.work(2), 1);
        ProgressBilling y = Contracts.lines(15, 2);
        CHECKS.same("split(14, 1) is line 15", y.split(14, 1), 15);
        CHECKS.same("value(15)", y.value(15), 1);
        CHECKS.same("value(14)", y.value(14), 1);
    }

    private static void promises23And24And30() {
        ProgressBilling x = Contracts.lines(16, 10000000);
        CHECKS.same("lines()", x.lines(), 16);
        CHECKS.same("contractSum()", x.contractSum(), 160000000);
        x.changeValue(15, 1);
        CHECKS.same("value(15)", x.value(15), 1);
        CHECKS.same("value(14)", x.value(14), 10000000);
        CHECKS.same("contractSum()", x.contractSum(), 150000001);
        CHECKS.same("contractSum() of zeroes", Contracts.lines(3, 0).contractSum(), 0);
    }
}
