import java.math.BigInteger;
import java.util.ArrayList;
import java.util.List;
import java.util.TreeMap;

/**
 * The document's words once more, with fractions of numbers without bounds, lists and a sorted map,
 * and nothing of the class that is tested. Answers come as text: a number, or an exception's name.
 */
final class Model {
    private static final String NO_SUCH = "throws.IndexOutOfBoundsException";
    private static final String OUT_OF_RANGE = "throws.IllegalArgumentException";
    private static final String REFUSED = "throws.IllegalStateException";

    private static final class Line {
        long value;
        long work;
        long goods;
        long billed;
        long held;

        long earned() {
            return work + goods;
        }
    }

    private static final class Application {
        int state;
        long amount;
        long billed;
        long held;
    }

    private final List<Line> lines = new ArrayList<>();
    private final List<Application> applications = new ArrayList<>();
    private final TreeMap<Integer, Integer> steps = new TreeMap<>();
    private boolean byIncrease;

    Model() {
        steps.put(0, 100);
    }

    /** What the call is due to answer; it changes the model as the call is due to. */
    String answer(String call, int a, int b) {
        switch (call) {
            case "addLine": return addLine(a);
            case "changeValue": return noLine(a) ? NO_SUCH : changeValue(lines.get(a), b);
            case "split": return noLine(a) ? NO_SUCH : split(lines.get(a), b);
            case "setWork": return noLine(a) ? NO_SUCH : setWork(lines.get(a), b);
            case "store": return noLine(a) ? NO_SUCH : store(lines.get(a), b);
            case "place": return noLine(a) ? NO_SUCH : place(lines.get(a), b);
            case "setStep": return setStep(a, b);
            case "dropStep": return dropStep(a);
            case "hold": return hold(a % 2 != 0);
            case "close": return close();
            case "pay": return noApplication(a) ? NO_SUCH : pay(a);
            case "waive": return noApplication(a) ? NO_SUCH : waive(applications.get(a));
            case "lineByShare": return noLine(a) ? NO_SUCH : told(byShare().indexOf(a));
            default: return asked(call, a);
        }
    }

    private String asked(String call, int a) {
        switch (call) {
            case "steps": return told(steps.size());
            case "progress": return told(progress());
            case "rate": return told(rate());
            case "nextAmount": return told(closedNow().amount);
            case "applications": return told(applications.size());
            case "lines": return told(lines.size());
            case "contractSum": return told(contractSum());
            case "paid": return told(paid());
            case "toCome": return told(contractSum() - paid());
            case "state": return noApplication(a) ? NO_SUCH : told(applications.get(a).state);
            case "amount": return noApplication(a) ? NO_SUCH : told(applications.get(a).amount);
            case "billedBehind": return noApplication(a) ? NO_SUCH : told(applications.get(a).billed);
            case "heldBehind": return noApplication(a) ? NO_SUCH : told(applications.get(a).held);
            case "value": return noLine(a) ? NO_SUCH : told(lines.get(a).value);
            case "work": return noLine(a) ? NO_SUCH : told(lines.get(a).work);
            case "goods": return noLine(a) ? NO_SUCH : told(lines.get(a).goods);
            case "billed": return noLine(a) ? NO_SUCH : told(lines.get(a).billed);
            case "held": return noLine(a) ? NO_SUCH : told(lines.get(a).held);
            default: throw new IllegalArgumentException(call);
        }
    }

    private String addLine(int value) {
        if (value < 0 || value > 10_000_000) return OUT_OF_RANGE;
        if (lines.size() == 16) return REFUSED;
        Line line = new Line();
        line.value = value;
        lines.add(line);
        return told(lines.size() - 1);
    }

    private String changeValue(Line line, int value) {
        if (value < 0 || value > 10_000_000) return OUT_OF_RANGE;
        if (value < line.earned()) return REFUSED;
        long greater = value - line.value;
        line.value = value;
        return told(greater);
    }

    private String split(Line line, int part) {
        if (part < 1 || part > line.value - 1) return OUT_OF_RANGE;
        if (lines.size() == 16) return REFUSED;
        Line other = new Line();
        long earned = down(line.earned() , part, line.value);
        long rest = line.earned() - earned;
        other.work = down(line.work, part, line.value);
        other.billed = down(line.billed, part, line.value);
        other.held = down(line.held, part, line.value);
        other.goods = earned - other.work;
        other.value = part;
        line.work -= other.work;
        line.billed -= other.billed;
        line.held -= other.held;
        line.goods = rest - line.work;
        line.value -= part;
        lines.add(other);
        return told(lines.size() - 1);
    }

    private String setWork(Line line, int share) {
        if (share < 0 || share > 1000) return OUT_OF_RANGE;
        long work = nearest(line.value, share);
        if (work < line.work || work + line.goods > line.value) return REFUSED;
        long greater = work - line.work;
        line.work = work;
        return told(greater);
    }

    private String store(Line line, int cents) {
        if (cents < 1 || cents > 10_000_000) return OUT_OF_RANGE;
        if (line.earned() + cents > line.value) return REFUSED;
        line.goods += cents;
        return told(line.goods);
    }

    private String place(Line line, int cents) {
        if (cents < 1 || cents > 10_000_000) return OUT_OF_RANGE;
        if (line.goods < cents) return REFUSED;
        line.goods -= cents;
        line.work += cents;
        return told(line.work);
    }

    private String setStep(int threshold, int rate) {
        if (threshold < 0 || threshold > 1000 || rate < 0 || rate > 1000) return OUT_OF_RANGE;
        if (!steps.containsKey(threshold) && steps.size() == 6) return REFUSED;
        Integer before = steps.put(threshold, rate);
        return told(before == null ? -1 : before);
    }

    private String dropStep(int threshold) {
        if (threshold < 1 || threshold > 1000) return OUT_OF_RANGE;
        Integer rate = steps.remove(threshold);
        return rate == null ? REFUSED : told(rate);
    }

    private String hold(boolean byIncreaseThen) {
        boolean before = byIncrease;
        byIncrease = byIncreaseThen;
        return told(before ? 1 : 0);
    }

    private String close() {
        if (lines.isEmpty() || applications.size() == 60) return REFUSED;
        Application closed = closedNow();
        int rate = rate();
        for (Line line : lines) {
            line.held = heldThen(line, rate);
            line.billed = line.earned();
        }
        applications.add(closed);
        return told(applications.size() - 1);
    }

    private Application closedNow() {
        Application closed = new Application();
        int rate = rate();
        for (Line line : lines) {
            closed.billed += line.earned();
            closed.held += heldThen(line, rate);
        }
        closed.amount = closed.billed - closed.held;
        for (Application before : applications) {
            closed.amount -= before.amount;
        }
        return closed;
    }

    private long heldThen(Line line, int rate) {
        return byIncrease ? line.held + nearest(line.earned() - line.billed, rate) : nearest(line.earned(), rate);
    }

    private String pay(int number) {
        Application application = applications.get(number);
        if (application.state != 0) return REFUSED;
        for (Application before : applications.subList(0, number)) {
            if (before.state != 2) return REFUSED;
        }
        application.state = 1;
        return told(application.amount);
    }

    private String waive(Application application) {
        if (application.state != 1) return REFUSED;
        application.state = 2;
        return told(applications.stream().filter(one -> one.state == 2).count());
    }

    private List<Integer> byShare() {
        List<Integer> order = new ArrayList<>();
        for (int line = 0; line < lines.size(); line++) {
            order.add(line);
        }
        // The sort is stable: lines with the same share stay by their numbers.
        order.sort((one, other) -> compareShares(lines.get(other), lines.get(one)));
        List<Integer> places = new ArrayList<>(order);
        for (int place = 0; place < order.size(); place++) {
            places.set(order.get(place), place);
        }
        return places;
    }

    private static int compareShares(Line one, Line other) {
        BigInteger left = one.value == 0 ? BigInteger.ZERO : BigInteger.valueOf(one.work).multiply(BigInteger.valueOf(Math.max(other.value, 1)));
        BigInteger right = other.value == 0 ? BigInteger.ZERO : BigInteger.valueOf(other.work).multiply(BigInteger.valueOf(Math.max(one.value, 1)));
        return left.compareTo(right);
    }

    private long contractSum() {
        return lines.stream().mapToLong(line -> line.value).sum();
    }

    private long paid() {
        return applications.stream().filter(one -> one.state > 0).mapToLong(one -> one.amount).sum();
    }

    private int progress() {
        long work = lines.stream().mapToLong(line -> line.work).sum();
        return contractSum() == 0 ? 0 : (int) down(work, 1000, contractSum());
    }

    private int rate() {
        return steps.floorEntry(progress()).getValue();
    }

    private boolean noLine(int line) {
        return line < 0 || line >= lines.size();
    }

    private boolean noApplication(int application) {
        return application < 0 || application >= applications.size();
    }

    private static long down(long amount, long factor, long divisor) {
        return BigInteger.valueOf(amount).multiply(BigInteger.valueOf(factor)).divide(BigInteger.valueOf(divisor)).longValueExact();
    }

    /** The whole number that is nearest to amount * share / 1000; the upper one if both are as near. */
    private static long nearest(long amount, long share) {
        BigInteger[] parts = BigInteger.valueOf(amount).multiply(BigInteger.valueOf(share)).divideAndRemainder(BigInteger.valueOf(1000));
        return parts[0].longValueExact() + (parts[1].longValueExact() >= 500 ? 1 : 0);
    }

    private static String told(long number) {
        return Long.toString(number);
    }
}
