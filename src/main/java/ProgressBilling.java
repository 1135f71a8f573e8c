/**
 * The progress billing of a building contract: a schedule of lines, the steps of the rate that is
 * held back, applications that bill what was earned, and their payments and waivers.
 *
 * <p>All amounts are whole cents; all shares, thresholds and rates are thousandths.
 */
public final class ProgressBilling {
    public static final int NONE = -1;
    public static final int CLOSED = 0;
    public static final int PAID = 1;
    public static final int WAIVED = 2;

    private static final int MOST_LINES = 16;
    private static final int MOST_STEPS = 6;
    private static final int MOST_APPLICATIONS = 60;
    private static final int MOST_CENTS = 10000000;
    private static final int WHOLE = 1000;
    private static final int HALF = 500;
    private static final int FIRST_RATE = 100;

    // One column for each amount of a line. What is earned is kept instead of the goods, because
    // splitting and closing go by it; the goods are what is earned less the work.
    private final int[] lineValue = new int[MOST_LINES];
    private final int[] lineEarned = new int[MOST_LINES];
    private final int[] lineWork = new int[MOST_LINES];
    private final int[] lineBilled = new int[MOST_LINES];
    private final int[] lineHeld = new int[MOST_LINES];
    private int lineCount;

    // The step with the threshold 0 stands first and is never dropped; the others have no order.
    private final int[] stepThreshold = new int[MOST_STEPS];
    private final int[] stepRate = new int[MOST_STEPS];
    private int stepCount;

    private boolean holdsByIncrease;

    private final int[] applicationState = new int[MOST_APPLICATIONS];
    private final int[] applicationAmount = new int[MOST_APPLICATIONS];
    private final int[] applicationBilled = new int[MOST_APPLICATIONS];
    private final int[] applicationHeld = new int[MOST_APPLICATIONS];
    private int applicationCount;

    public ProgressBilling() {
        stepRate[0] = FIRST_RATE;
        stepCount = 1;
    }

    // ---- lines and changes

    public int addLine(int value) throws IllegalArgumentException, IllegalStateException {
        requireBetween(value, 0, MOST_CENTS);
        requireRoomForLine();
        int added = lineCount;
        lineValue[added] = value;
        lineCount = added + 1;
        return added;
    }

    public int changeValue(int line, int value) throws IndexOutOfBoundsException, IllegalArgumentException, IllegalStateException {
        requireLine(line);
        requireBetween(value, 0, MOST_CENTS);
        if (value < lineEarned[line]) {
            throw new IllegalStateException("the line has earned more than this value");
        }
        int increase = value - lineValue[line];
        lineValue[line] = value;
        return increase;
    }

    public int split(int line, int part) throws IndexOutOfBoundsException, IllegalArgumentException, IllegalStateException {
        requireLine(line);
        int whole = lineValue[line];
        requireBetween(part, 1, whole - 1);
        requireRoomForLine();
        int added = lineCount;
        moveShare(lineEarned, line, added, part, whole);
        moveShare(lineWork, line, added, part, whole);
        moveShare(lineBilled, line, added, part, whole);
        moveShare(lineHeld, line, added, part, whole);
        lineValue[added] = part;
        lineValue[line] = whole - part;
        lineCount = added + 1;
        return added;
    }

    // ---- work and goods

    public int setWork(int line, int share) throws IndexOutOfBoundsException, IllegalArgumentException, IllegalStateException {
        requireLine(line);
        requireBetween(share, 0, WHOLE);
        int increase = thousandths(lineValue[line], share) - lineWork[line];
        if (increase < 0) {
            throw new IllegalStateException("the work would become less");
        }
        requireValueFor(line, increase);
        lineWork[line] += increase;
        lineEarned[line] += increase;
        return increase;
    }

    public int store(int line, int cents) throws IndexOutOfBoundsException, IllegalArgumentException, IllegalStateException {
        requireLine(line);
        requireBetween(cents, 1, MOST_CENTS);
        requireValueFor(line, cents);
        lineEarned[line] += cents;
        return lineEarned[line] - lineWork[line];
    }

    public int place(int line, int cents) throws IndexOutOfBoundsException, IllegalArgumentException, IllegalStateException {
        requireLine(line);
        requireBetween(cents, 1, MOST_CENTS);
        if (cents > lineEarned[line] - lineWork[line]) {
            throw new IllegalStateException("the line has not so many goods");
        }
        lineWork[line] += cents;
        return lineWork[line];
    }

    // ---- what is held

    public int setStep(int threshold, int rate) throws IllegalArgumentException, IllegalStateException {
        requireBetween(threshold, 0, WHOLE);
        requireBetween(rate, 0, WHOLE);
        int step = stepWith(threshold);
        if (step < 0) {
            addStep(threshold, rate);
            return NONE;
        }
        int before = stepRate[step];
        stepRate[step] = rate;
        return before;
    }

    public int dropStep(int threshold) throws IllegalArgumentException, IllegalStateException {
        requireBetween(threshold, 1, WHOLE);
        int step = stepWith(threshold);
        if (step < 0) {
            throw new IllegalStateException("no step has this threshold");
        }
        int rate = stepRate[step];
        int last = stepCount - 1;
        stepThreshold[step] = stepThreshold[last];
        stepRate[step] = stepRate[last];
        stepCount = last;
        return rate;
    }

    public boolean hold(boolean byIncrease) {
        boolean before = holdsByIncrease;
        holdsByIncrease = byIncrease;
        return before;
    }

    public int steps() {
        return stepCount;
    }

    public int progress() {
        return scaledDown(sum(lineWork, lineCount), WHOLE, contractSum());
    }

    public int rate() {
        int progress = progress();
        int inForce = 0;
        for (int step = 1; step < stepCount; step++) {
            if (stepThreshold[step] <= progress && stepThreshold[step] > stepThreshold[inForce]) {
                inForce = step;
            }
        }
        return stepRate[inForce];
    }

    // ---- applications

    public int close() throws IllegalStateException {
        if (lineCount == 0) {
            throw new IllegalStateException("there are no lines");
        }
        if (applicationCount >= MOST_APPLICATIONS) {
            throw new IllegalStateException("there are 60 applications");
        }
        int closed = applicationCount;
        applicationAmount[closed] = nextAmount();
        billLines();
        applicationState[closed] = CLOSED;
        applicationBilled[closed] = sum(lineBilled, lineCount);
        applicationHeld[closed] = sum(lineHeld, lineCount);
        applicationCount = closed + 1;
        return closed;
    }

    public int nextAmount() {
        int rate = rate();
        int amount = sum(lineEarned, lineCount) - sum(applicationAmount, applicationCount);
        for (int line = 0; line < lineCount; line++) {
            amount -= heldIfClosed(line, rate);
        }
        return amount;
    }

    public int pay(int application) throws IndexOutOfBoundsException, IllegalStateException {
        requireApplication(application);
        if (applicationState[application] != CLOSED) {
            throw new IllegalStateException("the application is paid already");
        }
        // A waiver follows its payment, and that follows all waivers before it: so the waivers
        // that are given are those of the first applications, and counting them is enough.
        if (waiversGiven() < application) {
            throw new IllegalStateException("a waiver before it is not given");
        }
        applicationState[application] = PAID;
        return applicationAmount[application];
    }

    public int waive(int application) throws IndexOutOfBoundsException, IllegalStateException {
        requireApplication(application);
        if (applicationState[application] != PAID) {
            throw new IllegalStateException("the application is not in the state PAID");
        }
        applicationState[application] = WAIVED;
        return waiversGiven();
    }

    public int applications() {
        return applicationCount;
    }

    public int state(int application) throws IndexOutOfBoundsException {
        requireApplication(application);
        return applicationState[application];
    }

    public int amount(int application) throws IndexOutOfBoundsException {
        requireApplication(application);
        return applicationAmount[application];
    }

    public int billedBehind(int application) throws IndexOutOfBoundsException {
        requireApplication(application);
        return applicationBilled[application];
    }

    public int heldBehind(int application) throws IndexOutOfBoundsException {
        requireApplication(application);
        return applicationHeld[application];
    }

    // ---- sheets

    public int lines() {
        return lineCount;
    }

    public int value(int line) throws IndexOutOfBoundsException {
        requireLine(line);
        return lineValue[line];
    }

    public int work(int line) throws IndexOutOfBoundsException {
        requireLine(line);
        return lineWork[line];
    }

    public int goods(int line) throws IndexOutOfBoundsException {
        requireLine(line);
        return lineEarned[line] - lineWork[line];
    }

    public int billed(int line) throws IndexOutOfBoundsException {
        requireLine(line);
        return lineBilled[line];
    }

    public int held(int line) throws IndexOutOfBoundsException {
        requireLine(line);
        return lineHeld[line];
    }

    public int lineByShare(int place) throws IndexOutOfBoundsException {
        // There are as many places as lines.
        requireLine(place);
        int line = 0;
        // Each place has its line, so the last line needs no look.
        while (line < lineCount - 1 && placeByShare(line) != place) {
            line++;
        }
        return line;
    }

    public int contractSum() {
        return sum(lineValue, lineCount);
    }

    public int paid() {
        int paid = 0;
        for (int application = 0; application < applicationCount; application++) {
            if (applicationState[application] != CLOSED) {
                paid += applicationAmount[application];
            }
        }
        return paid;
    }

    public int toCome() {
        return contractSum() - paid();
    }

    // ---- what is asked before a call changes anything

    private void requireLine(int line) {
        if (line < 0 || line >= lineCount) {
            throw new IndexOutOfBoundsException("there is no such line");
        }
    }

    private void requireApplication(int application) {
        if (application < 0 || application >= applicationCount) {
            throw new IndexOutOfBoundsException("there is no such application");
        }
    }

    private static void requireBetween(int number, int least, int greatest) {
        if (number < least || number > greatest) {
            throw new IllegalArgumentException("an argument is out of its range");
        }
    }

    private void requireRoomForLine() {
        if (lineCount >= MOST_LINES) {
            throw new IllegalStateException("there are 16 lines");
        }
    }

    private void requireValueFor(int line, int increase) {
        if (lineEarned[line] + increase > lineValue[line]) {
            throw new IllegalStateException("the line would have earned more than its value");
        }
    }

    // ---- parts of the calls above

    private static void moveShare(int[] column, int line, int added, int part, int whole) {
        int moved = scaledDown(column[line], part, whole);
        column[added] = moved;
        column[line] -= moved;
    }

    private int stepWith(int threshold) {
        for (int step = 0; step < stepCount; step++) {
            if (stepThreshold[step] == threshold) {
                return step;
            }
        }
        return NONE;
    }

    private void addStep(int threshold, int rate) {
        if (stepCount >= MOST_STEPS) {
            throw new IllegalStateException("there are 6 steps");
        }
        stepThreshold[stepCount] = threshold;
        stepRate[stepCount] = rate;
        stepCount++;
    }

    private int heldIfClosed(int line, int rate) {
        if (holdsByIncrease) {
            return lineHeld[line] + thousandths(lineEarned[line] - lineBilled[line], rate);
        }
        return thousandths(lineEarned[line], rate);
    }

    private void billLines() {
        int rate = rate();
        for (int line = 0; line < lineCount; line++) {
            lineHeld[line] = heldIfClosed(line, rate);
            lineBilled[line] = lineEarned[line];
        }
    }

    private int waiversGiven() {
        int given = 0;
        for (int application = 0; application < applicationCount; application++) {
            if (applicationState[application] == WAIVED) {
                given++;
            }
        }
        return given;
    }

    private int placeByShare(int line) {
        int ahead = 0;
        for (int other = 0; other < lineCount; other++) {
            if (isAhead(other, line)) {
                ahead++;
            }
        }
        return ahead;
    }

    private boolean isAhead(int one, int other) {
        // Multiplied crosswise, so that the shares are compared as fractions.
        long ofOne = (long) lineWork[one] * shareDivisor(other);
        long ofOther = (long) lineWork[other] * shareDivisor(one);
        return ofOne > ofOther || (ofOne == ofOther && one < other);
    }

    private int shareDivisor(int line) {
        // A line with the value 0 has no work: 0 divided by 1 is the share 0 that is asked for.
        return Math.max(lineValue[line], 1);
    }

    private static int sum(int[] column, int count) {
        int sum = 0;
        for (int at = 0; at < count; at++) {
            sum += column[at];
        }
        return sum;
    }

    private static int thousandths(int amount, int share) {
        // Adding a half before rounding down rounds halves up, below 0 too.
        return (int) Math.floorDiv((long) amount * share + HALF, (long) WHOLE);
    }

    private static int scaledDown(int amount, int factor, int divisor) {
        if (divisor == 0) {
            return 0;
        }
        return (int) Math.floorDiv((long) amount * factor, (long) divisor);
    }
}
