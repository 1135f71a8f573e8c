/** The order of the lines by their shares: promise 29. */
final class SharesTest {
    private static final Checks CHECKS = new Checks("shares");

    public static void main(String[] args) {
        theGreatestFirst();
        sameSharesByTheirNumbers();
        fractionsAreNotRounded();
        theValueZeroIsTheShareZero();
        sixteenLines();
        CHECKS.end();
    }

    /** Lines of these values with this work, which is stored and put into place. */
    private static ProgressBilling lines(int[] values, int[] works) {
        ProgressBilling x = new ProgressBilling();
        for (int line = 0; line < values.length; line++) {
            x.addLine(values[line]);
            if (works[line] > 0) {
                x.store(line, works[line]);
                x.place(line, works[line]);
            }
        }
        return x;
    }

    private static void ordered(String what, ProgressBilling x, int... due) {
        for (int place = 0; place < due.length; place++) {
            CHECKS.same(what + ": lineByShare(" + place + ")", x.lineByShare(place), due[place]);
        }
    }

    private static void theGreatestFirst() {
        ProgressBilling x = lines(new int[] {100, 200, 50}, new int[] {50, 20, 49});
        ordered("three lines", x, 2, 0, 1);
        x.setWork(1, 1000);
        ordered("with more work", x, 1, 2, 0);
        x.store(0, 50);
        ordered("goods do not count", x, 1, 2, 0);
        x.changeValue(2, 500);
        ordered("with another value", x, 1, 0, 2);
        x.split(1, 7);
        ordered("with a line that is split", x, 1, 3, 0, 2);
    }

    private static void sameSharesByTheirNumbers() {
        ordered("no work at all", lines(new int[] {5, 4, 3}, new int[3]), 0, 1, 2);
        ordered("1/3 written in three ways", lines(new int[] {9, 3, 6, 2}, new int[] {3, 1, 2, 1}), 3, 0, 1, 2);
        ordered("all of it", lines(new int[] {1, 10000000, 7}, new int[] {1, 10000000, 7}), 0, 1, 2);
    }

    private static void fractionsAreNotRounded() {
        ordered("one cent of many", lines(new int[] {10000000, 9999999, 9999998}, new int[] {1, 1, 1}), 2, 1, 0);
        int[] values = {10000000, 9999999, 9999998};
        ordered("all but one cent", lines(values, new int[] {9999999, 9999998, 9999997}), 0, 1, 2);
        ordered("all but one cent, from behind", lines(new int[] {9999998, 9999999, 10000000}, new int[] {9999997, 9999998, 9999999}), 2, 1, 0);
    }

    private static void theValueZeroIsTheShareZero() {
        ordered("0 of 0 and 0 of 5", lines(new int[] {0, 5, 0}, new int[3]), 0, 1, 2);
        ordered("0 of 0 and 1 of 5", lines(new int[] {0, 5, 0, 10000000}, new int[] {0, 1, 0, 1}), 1, 3, 0, 2);
        ordered("0 of 0 alone", lines(new int[] {0}, new int[1]), 0);
        // Were the share of a value of 0 equal to each other share, line 1 would be neither before nor behind.
        ordered("0 of 0 between", lines(new int[] {10, 0, 10}, new int[] {1, 0, 2}), 2, 0, 1);
    }

    private static void sixteenLines() {
        int[] values = new int[16];
        int[] works = new int[16];
        for (int line = 0; line < 16; line++) {
            values[line] = 100;
            works[line] = line * 7 % 16;
        }
        ProgressBilling x = lines(values, works);
        for (int place = 0; place < 16; place++) {
            CHECKS.same("work at place " + place, x.work(x.lineByShare(place)), 15 - place);
        }
    }
}
