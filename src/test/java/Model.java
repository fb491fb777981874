/**
 * The document once more, by Java's own Double and Float: what Edgefloats, which
 * may not use their functions, is held against. The names of the face's methods
 * and parameters are the same here, for CompareTest calls both by name.
 */
final class Model {
    private final double[] wide = new double[8];
    private final float[] narrow = new float[8];
    private final int[] house = new int[4];

    private static void cell(int... cells) {
        for (int cell : cells) {
            if (cell < 0 || cell > 7) {
                throw new IndexOutOfBoundsException();
            }
        }
    }

    private static void choice(int choice, int first, int last) {
        if (choice < first || choice > last) {
            throw new IllegalArgumentException();
        }
    }

    private int refuse() {
        house[2]++;
        return -9;
    }

    private static boolean same(double a, double b) {
        return Double.doubleToRawLongBits(a) == Double.doubleToRawLongBits(b);
    }

    private static boolean same(float a, float b) {
        return Float.floatToRawIntBits(a) == Float.floatToRawIntBits(b);
    }

    private int set(int into, double number) {
        house[0]++;
        int changed = same(wide[into], number) ? 0 : 1;
        wide[into] = number;
        return changed;
    }

    private int set(int into, float number) {
        house[1]++;
        int changed = same(narrow[into], number) ? 0 : 1;
        narrow[into] = number;
        return changed;
    }

    private static double wideOf(int which) {
        double[] all = {0.0, -0.0, Double.POSITIVE_INFINITY, Double.NEGATIVE_INFINITY,
            Double.MAX_VALUE, Double.MIN_VALUE, Double.MIN_NORMAL};
        return all[which];
    }

    private static float narrowOf(int which) {
        float[] all = {0.0f, -0.0f, Float.POSITIVE_INFINITY, Float.NEGATIVE_INFINITY,
            Float.MAX_VALUE, Float.MIN_VALUE, Float.MIN_NORMAL};
        return all[which];
    }

    private static boolean isQuarter(double number, int bound) {
        double quarters = number * 4;
        return Math.rint(quarters) == quarters && Math.abs(quarters) <= bound;
    }

    private static boolean haveSum(double a, double b, int bound) {
        if (Double.isInfinite(a) || Double.isInfinite(b)) {
            boolean bothEndless = Double.isInfinite(a) && Double.isInfinite(b);
            return bothEndless ? a == b : isQuarter(a, bound) || isQuarter(b, bound);
        }
        return isQuarter(a, bound) && isQuarter(b, bound) && isQuarter(a + b, bound);
    }

    public int putWide(int cell, int upper, int lower) {
        cell(cell);
        double number = Double.longBitsToDouble(((long) upper << 32) + Integer.toUnsignedLong(lower));
        return Double.isNaN(number) ? refuse() : set(cell, number);
    }

    public int wideQuarters(int cell, int quarters) {
        cell(cell);
        choice(quarters, -1000000000, 1000000000);
        return set(cell, quarters / 4.0);
    }

    public int wideKnown(int cell, int which) {
        cell(cell);
        choice(which, 0, 6);
        return set(cell, wideOf(which));
    }

    public int wideCopy(int cell, int into) {
        cell(cell, into);
        return set(into, wide[cell]);
    }

    public int wideSwap(int cell, int other) {
        cell(cell, other);
        double moved = wide[cell];
        wide[cell] = wide[other];
        return set(other, moved);
    }

    public int wideMax(int one, int other, int into) {
        cell(one, other, into);
        return set(into, Math.max(wide[one], wide[other]));
    }

    public int wideMin(int one, int other, int into) {
        cell(one, other, into);
        return set(into, Math.min(wide[one], wide[other]));
    }

    public int wideSum(int one, int other, int into) {
        cell(one, other, into);
        return haveSum(wide[one], wide[other], 1000000000) ? set(into, wide[one] + wide[other]) : refuse();
    }

    public int wideSort(int how) {
        choice(how, 0, 1);
        double[] sorted = wide.clone();
        java.util.Arrays.sort(sorted);
        int changed = 0;
        for (int cell = 0; cell < 8; cell++) {
            changed += same(wide[cell], sorted[cell]) ? 0 : 1;
            wide[cell] = sorted[cell];
        }
        house[0]++;
        return changed;
    }

    public int wideEnd(boolean isGreatest, int into) {
        cell(into);
        double[] sorted = wide.clone();
        java.util.Arrays.sort(sorted);
        return set(into, sorted[isGreatest ? 7 : 0]);
    }

    public int upper(int cell) {
        cell(cell);
        return (int) (Double.doubleToRawLongBits(wide[cell]) >> 32);
    }

    public int lower(int cell) {
        cell(cell);
        return (int) Double.doubleToRawLongBits(wide[cell]);
    }

    public String wideText(int cell) {
        cell(cell);
        long digits = Double.doubleToRawLongBits(wide[cell]);
        return (digits < 0 ? 1 : 0) + " " + (digits << 1 >>> 53) + " " + (digits << 12 >>> 12);
    }

    public int wideOrder(int one, int other, int how) {
        cell(one, other);
        choice(how, 0, 2);
        return Double.compare(wide[one], wide[other]);
    }

    public boolean wideSame(int one, int other, int how) {
        cell(one, other);
        choice(how, 0, 2);
        return Double.valueOf(wide[one]).equals(wide[other]);
    }

    public boolean wideOther(int cell, int what) {
        cell(cell);
        choice(what, 0, 3);
        Object[] all = {null, "0", narrow[cell], 0};
        return Double.valueOf(wide[cell]).equals(all[what]);
    }

    public boolean wideLike(int one, int other) {
        cell(one, other);
        return wide[one] == wide[other];
    }

    public boolean wideBelow(int one, int other, boolean orLike) {
        cell(one, other);
        return orLike ? wide[one] <= wide[other] : wide[one] < wide[other];
    }

    public int wideHash(int cell, int how) {
        cell(cell);
        choice(how, 0, 1);
        return Double.hashCode(wide[cell]);
    }

    public boolean wideEndless(int cell, int how) {
        cell(cell);
        choice(how, 0, 2);
        return Double.isInfinite(wide[cell]);
    }

    public int wideCount(int cell) {
        cell(cell);
        return isQuarter(wide[cell], 1000000000) ? (int) (wide[cell] * 4) : Integer.MIN_VALUE;
    }

    public int wideFind(int cell, boolean isLast) {
        cell(cell);
        java.util.List<Double> all = new java.util.ArrayList<>();
        for (double number : wide) {
            all.add(number);
        }
        return isLast ? all.lastIndexOf(wide[cell]) : all.indexOf(wide[cell]);
    }

    public boolean wideHas(int which) {
        choice(which, 0, 6);
        for (double number : wide) {
            if (same(number, wideOf(which))) {
                return true;
            }
        }
        return false;
    }

    public int putNarrow(int cell, int digits) {
        cell(cell);
        float number = Float.intBitsToFloat(digits);
        return Float.isNaN(number) ? refuse() : set(cell, number);
    }

    public int narrowQuarters(int cell, int quarters) {
        cell(cell);
        choice(quarters, -16000000, 16000000);
        return set(cell, quarters / 4.0f);
    }

    public int narrowKnown(int cell, int which) {
        cell(cell);
        choice(which, 0, 6);
        return set(cell, narrowOf(which));
    }

    public int narrowCopy(int cell, int into) {
        cell(cell, into);
        return set(into, narrow[cell]);
    }

    public int narrowSwap(int cell, int other) {
        cell(cell, other);
        float moved = narrow[cell];
        narrow[cell] = narrow[other];
        return set(other, moved);
    }

    public int narrowMax(int one, int other, int into) {
        cell(one, other, into);
        return set(into, Math.max(narrow[one], narrow[other]));
    }

    public int narrowMin(int one, int other, int into) {
        cell(one, other, into);
        return set(into, Math.min(narrow[one], narrow[other]));
    }

    public int narrowSum(int one, int other, int into) {
        cell(one, other, into);
        return haveSum(narrow[one], narrow[other], 16000000) ? set(into, narrow[one] + narrow[other]) : refuse();
    }

    public int narrowSort(int how) {
        choice(how, 0, 1);
        float[] sorted = narrow.clone();
        java.util.Arrays.sort(sorted);
        int changed = 0;
        for (int cell = 0; cell < 8; cell++) {
            changed += same(narrow[cell], sorted[cell]) ? 0 : 1;
            narrow[cell] = sorted[cell];
        }
        house[1]++;
        return changed;
    }

    public int narrowEnd(boolean isGreatest, int into) {
        cell(into);
        float[] sorted = narrow.clone();
        java.util.Arrays.sort(sorted);
        return set(into, sorted[isGreatest ? 7 : 0]);
    }

    public int digits(int cell) {
        cell(cell);
        return Float.floatToRawIntBits(narrow[cell]);
    }

    public String narrowText(int cell) {
        cell(cell);
        int digits = Float.floatToRawIntBits(narrow[cell]);
        return (digits < 0 ? 1 : 0) + " " + (digits << 1 >>> 24) + " " + (digits << 9 >>> 9);
    }

    public int narrowOrder(int one, int other, int how) {
        cell(one, other);
        choice(how, 0, 2);
        return Float.compare(narrow[one], narrow[other]);
    }

    public boolean narrowSame(int one, int other, int how) {
        cell(one, other);
        choice(how, 0, 2);
        return Float.valueOf(narrow[one]).equals(narrow[other]);
    }

    public boolean narrowOther(int cell, int what) {
        cell(cell);
        choice(what, 0, 3);
        Object[] all = {null, "0", wide[cell], 0};
        return Float.valueOf(narrow[cell]).equals(all[what]);
    }

    public boolean narrowLike(int one, int other) {
        cell(one, other);
        return narrow[one] == narrow[other];
    }

    public boolean narrowBelow(int one, int other, boolean orLike) {
        cell(one, other);
        return orLike ? narrow[one] <= narrow[other] : narrow[one] < narrow[other];
    }

    public int narrowHash(int cell, int how) {
        cell(cell);
        choice(how, 0, 1);
        return Float.hashCode(narrow[cell]);
    }

    public boolean narrowEndless(int cell, int how) {
        cell(cell);
        choice(how, 0, 2);
        return Float.isInfinite(narrow[cell]);
    }

    public int narrowCount(int cell) {
        cell(cell);
        return isQuarter(narrow[cell], 16000000) ? (int) (narrow[cell] * 4) : Integer.MIN_VALUE;
    }

    public int narrowFind(int cell, boolean isLast) {
        cell(cell);
        java.util.List<Float> all = new java.util.ArrayList<>();
        for (float number : narrow) {
            all.add(number);
        }
        return isLast ? all.lastIndexOf(narrow[cell]) : all.indexOf(narrow[cell]);
    }

    public boolean narrowHas(int which) {
        choice(which, 0, 6);
        for (float number : narrow) {
            if (same(number, narrowOf(which))) {
                return true;
            }
        }
        return false;
    }

    public int house(int what) {
        choice(what, 0, 3);
        return house[what];
    }

    public int knock() {
        return ++house[3];
    }

    public boolean isSound() {
        return true;
    }

    public long digest() {
        java.util.List<Long> all = new java.util.ArrayList<>();
        for (int cell = 0; cell < 8; cell++) {
            add(all, upper(cell), lower(cell), wideHash(cell, 0), wideCount(cell), wideFind(cell, false), wideFind(cell, true));
        }
        for (int cell = 0; cell < 8; cell++) {
            add(all, digits(cell), narrowHash(cell, 0), narrowCount(cell), narrowFind(cell, false), narrowFind(cell, true));
        }
        for (int pair = 0; pair < 64; pair++) {
            if (pair / 8 < pair % 8) {
                add(all, wideOrder(pair / 8, pair % 8, 0), wideLike(pair / 8, pair % 8) ? 1 : 0);
            }
        }
        for (int pair = 0; pair < 64; pair++) {
            if (pair / 8 < pair % 8) {
                add(all, narrowOrder(pair / 8, pair % 8, 0), narrowLike(pair / 8, pair % 8) ? 1 : 0);
            }
        }
        add(all, house);
        add(all, 1);
        long d = 7638;
        for (long v : all) {
            d = d * 31 + v;
        }
        return d;
    }

    private static void add(java.util.List<Long> all, int... values) {
        for (int value : values) {
            all.add((long) value);
        }
    }
}
