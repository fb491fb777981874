import java.lang.reflect.Method;
import java.math.BigInteger;
import java.util.ArrayList;
import java.util.HashMap;
import java.util.List;
import java.util.Map;
import java.util.Random;

/**
 * Sections 1 to 3 of the document on whole numbers without bounds: each VALUE is counted in the
 * least one above 0, and what Edgefloats answers on each two NUMBERS is held against their
 * VALUES. (CompareTest's Model trusts Java's Double and Float; this test does not.)
 */
final class ValuesTest {
    private static final BigInteger ABOVE_ALL = BigInteger.ONE.shiftLeft(5000);
    private static final int NONE = Integer.MIN_VALUE;
    private static final int ONE = 1;
    private static final int OTHER = 6;
    private static final int INTO = 3;

    private final Dues dues = new Dues();
    private final Map<String, Method> methods = new HashMap<>();
    private final boolean isWide;
    private final int exponentDigits;
    private final int fractionDigits;
    private final BigInteger quarter;
    private final int most;
    private Edgefloats subject;
    private String told;

    private ValuesTest(boolean isWide) {
        this.isWide = isWide;
        exponentDigits = isWide ? 11 : 8;
        fractionDigits = isWide ? 52 : 23;
        // 2^-2 is so often 2^-1074, or 2^-149
        quarter = BigInteger.ONE.shiftLeft((isWide ? 1074 : 149) - 2);
        most = isWide ? 1000000000 : 16000000;
    }

    public static void main(String[] args) {
        new ValuesTest(true).run();
        new ValuesTest(false).run();
    }

    private void run() {
        List<Long> all = numbers();
        for (long one : all) {
            for (long other : all) {
                hold(one, other);
            }
        }
        dues.end("ValuesTest, " + (isWide ? "WIDE" : "NARROW"));
    }

    /** Each EXPONENT at an edge with each FRACTION at an edge, QUARTERS at an edge, and some of any kind. */
    private List<Long> numbers() {
        int ones = (1 << exponentDigits) - 1;
        int ofOne = ones / 2;
        int[] exponents = {0, 1, ofOne - 3, ofOne - 2, ofOne - 1, ofOne, ofOne + 21, ofOne + 22, ofOne + 27, ofOne + 28, ones - 1};
        long full = (1L << fractionDigits) - 1;
        List<Long> sizes = new ArrayList<>(List.of(digits(ones, 0)));
        for (int exponent : exponents) {
            for (long fraction : new long[] {0, 1, full / 2, full / 2 + 1, full}) {
                sizes.add(digits(exponent, fraction));
            }
        }
        for (int count : new int[] {1, 2, 3, 5, most / 2, most / 2 + 1, most - 1, most}) {
            sizes.add(ofQuarters(count));
            sizes.add(ofQuarters(count) + 1);
            sizes.add(ofQuarters(count) - 1);
        }
        Random random = new Random(7638);
        for (int i = 0; i < 20; i++) {
            sizes.add(digits(random.nextInt(ones), random.nextLong() & full));
            sizes.add(ofQuarters(1 + random.nextInt(most)));
        }
        List<Long> both = new ArrayList<>(sizes);
        for (long size : sizes) {
            both.add(size | (1L << (exponentDigits + fractionDigits)));
        }
        return both;
    }

    private long digits(int exponent, long fraction) {
        return ((long) exponent << fractionDigits) | fraction;
    }

    /** Halves what lies between, for SIZES rise as the digits do. */
    private long ofQuarters(int count) {
        BigInteger looked = quarter.multiply(BigInteger.valueOf(count));
        long below = 0;
        long above = digits((1 << exponentDigits) - 1, 0);
        while (above - below > 1) {
            long between = below + (above - below) / 2;
            if (value(between).compareTo(looked) <= 0) {
                below = between;
            } else {
                above = between;
            }
        }
        return below;
    }

    private int exponent(long digits) {
        return (int) (digits >>> fractionDigits) & ((1 << exponentDigits) - 1);
    }

    private long fraction(long digits) {
        return digits & ((1L << fractionDigits) - 1);
    }

    private boolean hasSign(long digits) {
        return digits >>> (exponentDigits + fractionDigits) != 0;
    }

    private boolean isEndless(long digits) {
        return exponent(digits) == (1 << exponentDigits) - 1;
    }

    private BigInteger value(long digits) {
        BigInteger size = BigInteger.valueOf(fraction(digits));
        if (isEndless(digits)) {
            size = ABOVE_ALL;
        } else if (exponent(digits) != 0) {
            size = size.add(BigInteger.ONE.shiftLeft(fractionDigits)).shiftLeft(exponent(digits) - 1);
        }
        return hasSign(digits) ? size.negate() : size;
    }

    private int count(long digits) {
        BigInteger[] parts = value(digits).divideAndRemainder(quarter);
        boolean isQuarter = parts[1].signum() == 0 && parts[0].abs().compareTo(BigInteger.valueOf(most)) <= 0;
        return isQuarter ? parts[0].intValueExact() : NONE;
    }

    private int order(long one, long other) {
        int byValue = value(one).compareTo(value(other));
        return byValue != 0 ? byValue : Boolean.compare(hasSign(other), hasSign(one));
    }

    /** The digits of the SUM; null if they have none. */
    private Long sum(long one, long other) {
        if (isEndless(one) || isEndless(other)) {
            long endless = isEndless(one) ? one : other;
            long second = isEndless(one) ? other : one;
            return second == endless || count(second) != NONE ? endless : null;
        }
        if (count(one) == NONE || count(other) == NONE || Math.abs(count(one) + count(other)) > most) {
            return null;
        }
        int both = count(one) + count(other);
        if (both == 0) {
            return one == other ? one : Long.valueOf(0);
        }
        return ofQuarters(Math.abs(both)) | (both < 0 ? 1L << (exponentDigits + fractionDigits) : 0);
    }

    private void hold(long one, long other) {
        subject = new Edgefloats();
        told = (isWide ? "WIDE " : "NARROW ") + Long.toHexString(one) + " and " + Long.toHexString(other);
        put(ONE, one);
        put(OTHER, other);
        boolean isAlike = value(one).equals(value(other));
        boolean isLess = value(one).compareTo(value(other)) < 0;
        due(order(one, other), "Order", ONE, OTHER, 0);
        due(order(one, other) == 0, "Same", ONE, OTHER, 0);
        due(isAlike, "Like", ONE, OTHER);
        due(isLess, "Below", ONE, OTHER, false);
        due(isLess || isAlike, "Below", ONE, OTHER, true);
        due(count(one), "Count", ONE);
        due(isEndless(one), "Endless", ONE, 0);
        due((hasSign(one) ? 1 : 0) + " " + exponent(one) + " " + fraction(one), "Text", ONE);
        comes(order(one, other) < 0 ? other : one, "Max");
        comes(order(one, other) < 0 ? one : other, "Min");
        put(INTO, 0);
        if (sum(one, other) == null) {
            due(-9, "Sum", ONE, OTHER, INTO);
            holdCell(0);
        } else {
            comes(sum(one, other), "Sum");
        }
        dues.due(told + ": isSound()", subject.isSound(), true);
    }

    private void put(int cell, long digits) {
        if (isWide) {
            subject.putWide(cell, (int) (digits >>> 32), (int) digits);
        } else {
            subject.putNarrow(cell, (int) digits);
        }
    }

    private void comes(long due, String name) {
        put(INTO, 0);
        due(due == 0 ? 0 : 1, name, ONE, OTHER, INTO);
        holdCell(due);
    }

    private void holdCell(long due) {
        long got = isWide ? ((long) subject.upper(INTO) << 32) | (subject.lower(INTO) & 0xFFFFFFFFL) : subject.digits(INTO) & 0xFFFFFFFFL;
        dues.due(told + ": the digits that came", Long.toHexString(got), Long.toHexString(due));
    }

    private void due(Object due, String name, Object... arguments) {
        Method method = methods.computeIfAbsent((isWide ? "wide" : "narrow") + name, Caller::method);
        dues.due(told + ": " + method.getName(), Caller.outcome(method, subject, arguments), due);
    }
}
