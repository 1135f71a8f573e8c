/** Contracts that tests begin with; each call makes a new one. */
final class Contracts {
    private Contracts() {
    }

    /** So many lines, each with this value. */
    static ProgressBilling lines(int count, int value) {
        ProgressBilling x = new ProgressBilling();
        for (int line = 0; line < count; line++) {
            x.addLine(value);
        }
        return x;
    }

    static ProgressBilling line(int value) {
        return lines(1, value);
    }

    /** A line of 1000, built up to a progress. */
    static ProgressBilling at(int progress) {
        ProgressBilling x = line(1000);
        x.setWork(0, progress);
        return x;
    }

    /**
     * So many lines, of which no two have the same amounts: line i has the value 2000 + i, the work
     * 10 + i, the goods 95 + i, the billed amount 100 + i, and half of that, rounded, as its held amount.
     */
    static ProgressBilling unequalLines(int count) {
        ProgressBilling x = new ProgressBilling();
        x.setStep(0, 500);
        for (int line = 0; line < count; line++) {
            x.addLine(2000 + line);
            x.store(line, 100 + line);
            x.place(line, 10 + line);
        }
        if (count > 0) {
            x.close();
        }
        for (int line = 0; line < count; line++) {
            x.store(line, 5 + line);
        }
        return x;
    }

    /** 1 to 6 steps: the first one, and one each with the thresholds 200, 400, 600, 800 and 1000; a line at 500. */
    static ProgressBilling steps(int count) {
        ProgressBilling x = at(500);
        for (int step = 1; step < count; step++) {
            x.setStep(200 * step, 100 - 10 * step);
        }
        return x;
    }

    /** A line and so many applications, of which no two are equal: application i has the amount 90 * (i + 1). */
    static ProgressBilling closed(int applications) {
        ProgressBilling x = line(1000000);
        for (int application = 0; application < applications; application++) {
            x.store(0, 100 * (application + 1));
            x.close();
        }
        return x;
    }

    /** As closed, and the first ones are paid and their waivers given. */
    static ProgressBilling waived(int applications, int waived) {
        ProgressBilling x = closed(applications);
        for (int application = 0; application < waived; application++) {
            x.pay(application);
            x.waive(application);
        }
        return x;
    }

    /** Three applications: WAIVED, PAID, CLOSED. */
    static ProgressBilling paidInPart() {
        ProgressBilling x = waived(3, 1);
        x.pay(1);
        return x;
    }

    /**
     * A contract with something of everything, so that a change of anything can be seen: three lines,
     * one of them with the value 0, work and goods that are not billed yet, three steps, holding by
     * the increase, and three applications: WAIVED, PAID, CLOSED.
     */
    static ProgressBilling underWay() {
        ProgressBilling x = lines(2, 1000);
        x.addLine(0);
        x.setStep(300, 80);
        x.setStep(500, 60);
        x.setWork(0, 300);
        x.store(0, 100);
        x.store(1, 333);
        x.close();
        x.hold(true);
        x.place(1, 33);
        x.close();
        x.store(1, 50);
        x.close();
        x.pay(0);
        x.waive(0);
        x.pay(1);
        x.place(0, 1);
        x.store(0, 55);
        return x;
    }

    /** As underWay, and a line 3 without work and goods. */
    static ProgressBilling withFreshLine(int value) {
        ProgressBilling x = underWay();
        x.addLine(value);
        return x;
    }

    /** As underWay, and filled up to 16 lines. */
    static ProgressBilling withAllLines() {
        ProgressBilling x = underWay();
        for (int line = 3; line < 16; line++) {
            x.addLine(10 * line);
        }
        return x;
    }

    /** As underWay, and filled up to 6 steps: 0, 1, 300, 500, 999, 1000. */
    static ProgressBilling withAllSteps() {
        ProgressBilling x = underWay();
        x.setStep(1, 90);
        x.setStep(999, 5);
        x.setStep(1000, 0);
        return x;
    }

    /** As underWay, and filled up to 60 applications, with something earned behind the last one. */
    static ProgressBilling withAllApplications() {
        ProgressBilling x = underWay();
        for (int application = 3; application < 60; application++) {
            x.store(1, 1 + application % 3);
            x.close();
        }
        x.store(1, 20);
        return x;
    }
}
