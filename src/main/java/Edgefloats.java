/**
 * A row of eight WIDE and a row of eight NARROW numbers of binary digits.
 * The words in capitals are those of DOC.md.
 */
public final class Edgefloats {
    private static final int CELLS = 8;
    private static final int LAST_KNOWN = 6;
    private static final int REFUSED = -9;
    private static final int NO_QUARTER = -2147483648;
    private static final int WIDE_BOUND = 1000000000;
    private static final int NARROW_BOUND = 16000000;
    private static final long LAST_32 = 0xFFFFFFFFL;
    private static final long DIGEST_START = 7638;
    private static final long DIGEST_FACTOR = 31;

    private final Row wide;
    private final Row narrow;
    private int knocks;

    public Edgefloats() {
        wide = new Row(new Width(11, 52, WIDE_BOUND));
        narrow = new Row(new Width(8, 23, NARROW_BOUND));
    }

    // ==== the WIDE row

    public int putWide(int cell, int upper, int lower) throws IndexOutOfBoundsException {
        return wide.put(cell, ((long) upper << 32) | (lower & LAST_32));
    }

    public int wideQuarters(int cell, int quarters) throws IndexOutOfBoundsException, IllegalArgumentException {
        return wide.putQuarters(cell, quarters);
    }

    public int wideKnown(int cell, int which) throws IndexOutOfBoundsException, IllegalArgumentException {
        return wide.putKnown(cell, which);
    }

    public int wideCopy(int cell, int into) throws IndexOutOfBoundsException {
        return wide.copy(cell, into);
    }

    public int wideSwap(int cell, int other) throws IndexOutOfBoundsException {
        return wide.swap(cell, other);
    }

    public int wideMax(int one, int other, int into) throws IndexOutOfBoundsException {
        return wide.putGreater(one, other, into);
    }

    public int wideMin(int one, int other, int into) throws IndexOutOfBoundsException {
        return wide.putLesser(one, other, into);
    }

    public int wideSum(int one, int other, int into) throws IndexOutOfBoundsException {
        return wide.putSum(one, other, into);
    }

    public int wideSort(int how) throws IllegalArgumentException {
        return wide.sort(how);
    }

    public int wideEnd(boolean isGreatest, int into) throws IndexOutOfBoundsException {
        return wide.putEnd(isGreatest, into);
    }

    public int upper(int cell) throws IndexOutOfBoundsException {
        return wide.firstHalf(cell);
    }

    public int lower(int cell) throws IndexOutOfBoundsException {
        return wide.lastHalf(cell);
    }

    public String wideText(int cell) throws IndexOutOfBoundsException {
        return wide.text(cell);
    }

    public int wideOrder(int one, int other, int how) throws IndexOutOfBoundsException, IllegalArgumentException {
        return wide.order(one, other, how);
    }

    public boolean wideSame(int one, int other, int how) throws IndexOutOfBoundsException, IllegalArgumentException {
        return wide.areSame(one, other, how);
    }

    public boolean wideOther(int cell, int what) throws IndexOutOfBoundsException, IllegalArgumentException {
        return wide.isEqualToOther(cell, what);
    }

    public boolean wideLike(int one, int other) throws IndexOutOfBoundsException {
        return wide.areLike(one, other);
    }

    public boolean wideBelow(int one, int other, boolean orLike) throws IndexOutOfBoundsException {
        return wide.isBelow(one, other, orLike);
    }

    public int wideHash(int cell, int how) throws IndexOutOfBoundsException, IllegalArgumentException {
        return wide.hash(cell, how);
    }

    public boolean wideEndless(int cell, int how) throws IndexOutOfBoundsException, IllegalArgumentException {
        return wide.isEndless(cell, how);
    }

    public int wideCount(int cell) throws IndexOutOfBoundsException {
        return wide.quarters(cell);
    }

    public int wideFind(int cell, boolean isLast) throws IndexOutOfBoundsException {
        return wide.find(cell, isLast);
    }

    public boolean wideHas(int which) throws IllegalArgumentException {
        return wide.has(which);
    }

    // ==== the NARROW row

    public int putNarrow(int cell, int digits) throws IndexOutOfBoundsException {
        return narrow.put(cell, digits & LAST_32);
    }

    public int narrowQuarters(int cell, int quarters) throws IndexOutOfBoundsException, IllegalArgumentException {
        return narrow.putQuarters(cell, quarters);
    }

    public int narrowKnown(int cell, int which) throws IndexOutOfBoundsException, IllegalArgumentException {
        return narrow.putKnown(cell, which);
    }

    public int narrowCopy(int cell, int into) throws IndexOutOfBoundsException {
        return narrow.copy(cell, into);
    }

    public int narrowSwap(int cell, int other) throws IndexOutOfBoundsException {
        return narrow.swap(cell, other);
    }

    public int narrowMax(int one, int other, int into) throws IndexOutOfBoundsException {
        return narrow.putGreater(one, other, into);
    }

    public int narrowMin(int one, int other, int into) throws IndexOutOfBoundsException {
        return narrow.putLesser(one, other, into);
    }

    public int narrowSum(int one, int other, int into) throws IndexOutOfBoundsException {
        return narrow.putSum(one, other, into);
    }

    public int narrowSort(int how) throws IllegalArgumentException {
        return narrow.sort(how);
    }

    public int narrowEnd(boolean isGreatest, int into) throws IndexOutOfBoundsException {
        return narrow.putEnd(isGreatest, into);
    }

    public int digits(int cell) throws IndexOutOfBoundsException {
        return narrow.lastHalf(cell);
    }

    public String narrowText(int cell) throws IndexOutOfBoundsException {
        return narrow.text(cell);
    }

    public int narrowOrder(int one, int other, int how) throws IndexOutOfBoundsException, IllegalArgumentException {
        return narrow.order(one, other, how);
    }

    public boolean narrowSame(int one, int other, int how) throws IndexOutOfBoundsException, IllegalArgumentException {
        return narrow.areSame(one, other, how);
    }

    public boolean narrowOther(int cell, int what) throws IndexOutOfBoundsException, IllegalArgumentException {
        return narrow.isEqualToOther(cell, what);
    }

    public boolean narrowLike(int one, int other) throws IndexOutOfBoundsException {
        return narrow.areLike(one, other);
    }

    public boolean narrowBelow(int one, int other, boolean orLike) throws IndexOutOfBoundsException {
        return narrow.isBelow(one, other, orLike);
    }

    public int narrowHash(int cell, int how) throws IndexOutOfBoundsException, IllegalArgumentException {
        return narrow.hash(cell, how);
    }

    public boolean narrowEndless(int cell, int how) throws IndexOutOfBoundsException, IllegalArgumentException {
        return narrow.isEndless(cell, how);
    }

    public int narrowCount(int cell) throws IndexOutOfBoundsException {
        return narrow.quarters(cell);
    }

    public int narrowFind(int cell, boolean isLast) throws IndexOutOfBoundsException {
        return narrow.find(cell, isLast);
    }

    public boolean narrowHas(int which) throws IllegalArgumentException {
        return narrow.has(which);
    }

    // ==== the whole

    public int house(int what) throws IllegalArgumentException {
        checkChoice(what, 3);
        return counted(what);
    }

    public int knock() {
        knocks++;
        return knocks;
    }

    public boolean isSound() {
        return wide.isWellOrdered() && narrow.isWellOrdered();
    }

    public long digest() {
        long d = DIGEST_START;
        for (int cell = 0; cell < CELLS; cell++) {
            d = mixed(d, wide.firstHalf(cell));
            d = mixed(d, wide.lastHalf(cell));
            d = mixedAnswers(d, wide, cell);
        }
        for (int cell = 0; cell < CELLS; cell++) {
            d = mixed(d, narrow.lastHalf(cell));
            d = mixedAnswers(d, narrow, cell);
        }
        d = mixedPairs(d, wide);
        d = mixedPairs(d, narrow);
        for (int what = 0; what <= 3; what++) {
            d = mixed(d, counted(what));
        }
        return mixed(d, isSound() ? 1 : 0);
    }

    private int counted(int what) {
        switch (what) {
            case 0:
                return wide.acts;
            case 1:
                return narrow.acts;
            case 2:
                return wide.refusals + narrow.refusals;
            default:
                return knocks;
        }
    }

    private static void checkCell(int cell) {
        if (cell < 0 || cell >= CELLS) {
            throw new IndexOutOfBoundsException("a cell is not 0 to 7");
        }
    }

    private static void checkChoice(int choice, int last) {
        if (choice < 0 || choice > last) {
            throw new IllegalArgumentException("there is no such choice");
        }
    }

    private static long mixed(long d, long v) {
        return d * DIGEST_FACTOR + v;
    }

    private static long mixedAnswers(long d, Row row, int cell) {
        long next = mixed(d, row.hash(cell, 0));
        next = mixed(next, row.quarters(cell));
        next = mixed(next, row.find(cell, false));
        return mixed(next, row.find(cell, true));
    }

    private static long mixedPairs(long d, Row row) {
        long next = d;
        for (int one = 0; one < CELLS; one++) {
            for (int other = one + 1; other < CELLS; other++) {
                next = mixed(next, row.order(one, other, 0));
                next = mixed(next, row.areLike(one, other) ? 1 : 0);
            }
        }
        return next;
    }

    /**
     * What the digits of a WIDTH mean. The digits are the last ones of a long
     * (all 64 of them, or 32 behind zeros), so that one code serves both.
     */
    private static final class Width {
        private static final int BILLION = 1000000000;

        private final int fractionDigits;
        private final int exponentOnes;
        private final long fractionOnes;
        private final long sizeOnes;
        private final long signOne;
        private final int exponentOfOneQuarter;
        private final int quarterBound;

        Width(int exponentDigits, int fractionDigits, int quarterBound) {
            this.fractionDigits = fractionDigits;
            this.quarterBound = quarterBound;
            exponentOnes = (1 << exponentDigits) - 1;
            fractionOnes = (1L << fractionDigits) - 1;
            signOne = 1L << (exponentDigits + fractionDigits);
            sizeOnes = signOne - 1;
            // 1 has the EXPONENT 0 1 1 .. 1; a quarter is two doublings less
            exponentOfOneQuarter = (exponentOnes >> 1) - 2;
        }

        boolean hasSign(long digits) {
            return (digits & signOne) != 0;
        }

        int exponent(long digits) {
            return (int) (digits >>> fractionDigits) & exponentOnes;
        }

        long fraction(long digits) {
            return digits & fractionOnes;
        }

        boolean isZero(long digits) {
            return (digits & sizeOnes) == 0;
        }

        boolean isEndless(long digits) {
            return exponent(digits) == exponentOnes && fraction(digits) == 0;
        }

        boolean isSpoiled(long digits) {
            return exponent(digits) == exponentOnes && fraction(digits) != 0;
        }

        long known(int which) {
            long endless = (long) exponentOnes << fractionDigits;
            switch (which) {
                case 0:
                    return 0;
                case 1:
                    return signOne;
                case 2:
                    return endless;
                case 3:
                    return signOne | endless;
                case 4:
                    return endless - 1;
                case 5:
                    return 1;
                default:
                    return 1L << fractionDigits;
            }
        }

        // The digits behind the SIGN, read as one whole number, rise just as
        // the SIZE does; so VALUES are held against each other by them.
        long rank(long digits) {
            long size = digits & sizeOnes;
            return (digits & signOne) != 0 ? -size : size;
        }

        // Those with SIGN stand one lower than by rank(), so that the two
        // ZEROS come apart.
        long standing(long digits) {
            long size = digits & sizeOnes;
            return (digits & signOne) != 0 ? -size - 1 : size;
        }

        int order(long first, long second) {
            long one = standing(first);
            long other = standing(second);
            if (one < other) {
                return -1;
            }
            return one > other ? 1 : 0;
        }

        boolean areLike(long first, long second) {
            return rank(first) == rank(second);
        }

        boolean isBelow(long first, long second) {
            return rank(first) < rank(second);
        }

        long greater(long first, long second) {
            return order(first, second) < 0 ? second : first;
        }

        long lesser(long first, long second) {
            return order(first, second) > 0 ? second : first;
        }

        int hash(long digits) {
            return (int) (digits >>> 32) ^ (int) digits;
        }

        long ofQuarters(int quarters) {
            if (quarters == 0) {
                return 0;
            }
            long size = quarters < 0 ? -(long) quarters : quarters;
            int doublings = highestDigit(size);
            long exponent = exponentOfOneQuarter + doublings;
            long fraction = (size << (fractionDigits - doublings)) & fractionOnes;
            long digits = (exponent << fractionDigits) | fraction;
            return quarters < 0 ? signOne | digits : digits;
        }

        int highestDigit(long size) {
            int highest = 0;
            for (int place = 1; place < 32; place++) {
                if ((size >> place) != 0) {
                    highest = place;
                }
            }
            return highest;
        }

        int quarters(long digits) {
            if (isZero(digits)) {
                return 0;
            }
            int doublings = exponent(digits) - exponentOfOneQuarter;
            if (doublings < 0 || doublings > highestDigit(quarterBound)) {
                return NO_QUARTER;
            }
            int behindQuarters = fractionDigits - doublings;
            long full = (1L << fractionDigits) | fraction(digits);
            long size = full >> behindQuarters;
            if (size << behindQuarters != full || size > quarterBound) {
                return NO_QUARTER;
            }
            return (int) (hasSign(digits) ? -size : size);
        }

        boolean isQuarter(long digits) {
            return quarters(digits) != NO_QUARTER;
        }

        boolean haveSum(long first, long second) {
            if (isEndless(first)) {
                return first == second || isQuarter(second);
            }
            if (isEndless(second)) {
                return isQuarter(first);
            }
            if (!isQuarter(first) || !isQuarter(second)) {
                return false;
            }
            long both = (long) quarters(first) + quarters(second);
            return both >= -quarterBound && both <= quarterBound;
        }

        long sum(long first, long second) {
            if (isEndless(first)) {
                return first;
            }
            if (isEndless(second)) {
                return second;
            }
            if (first == signOne && second == signOne) {
                return signOne;
            }
            return ofQuarters(quarters(first) + quarters(second));
        }

        String text(long digits) {
            StringBuilder text = new StringBuilder();
            text.append(hasSign(digits) ? '1' : '0');
            text.append(' ');
            text.append(exponent(digits));
            text.append(' ');
            appendWhole(text, fraction(digits));
            return text.toString();
        }

        // LANGUAGE.md lets a StringBuilder take no long, and a WIDE FRACTION
        // is too long for an int.
        void appendWhole(StringBuilder text, long whole) {
            int billions = (int) (whole / BILLION);
            int rest = (int) (whole % BILLION);
            if (billions == 0) {
                text.append(rest);
                return;
            }
            text.append(billions);
            for (int unit = BILLION / 10; unit > 0; unit /= 10) {
                text.append((char) ('0' + rest / unit % 10));
            }
        }

        boolean isPairSound(long first, long second) {
            int order = order(first, second);
            boolean isSame = order == 0;
            if (order != -order(second, first) || isSame != (first == second)) {
                return false;
            }
            if (isSame && hash(first) != hash(second)) {
                return false;
            }
            if (!isSame && areLike(first, second) && !(isZero(first) && isZero(second))) {
                return false;
            }
            long greater = greater(first, second);
            long lesser = lesser(first, second);
            return greater == first && lesser == second || greater == second && lesser == first;
        }

        boolean isTripleSound(long first, long second, long third) {
            boolean isChain = order(first, second) < 0 && order(second, third) < 0;
            return !isChain || order(first, third) < 0;
        }
    }

    /** Eight cells of one WIDTH. It looks at all arguments itself, and throws as the face is to throw. */
    private static final class Row {
        private final Width width;
        private final long[] cells;
        private final long[] before;
        private int acts;
        private int refusals;

        Row(Width width) {
            this.width = width;
            cells = new long[CELLS];
            before = new long[CELLS];
        }

        int put(int cell, long digits) {
            checkCell(cell);
            if (width.isSpoiled(digits)) {
                return refuse();
            }
            return place(cell, digits);
        }

        int putQuarters(int cell, int quarters) {
            checkCell(cell);
            if (quarters < -width.quarterBound || quarters > width.quarterBound) {
                throw new IllegalArgumentException("there is no such QUARTER");
            }
            return place(cell, width.ofQuarters(quarters));
        }

        int putKnown(int cell, int which) {
            checkCell(cell);
            checkChoice(which, LAST_KNOWN);
            return place(cell, width.known(which));
        }

        int copy(int cell, int into) {
            checkCell(cell);
            checkCell(into);
            return place(into, cells[cell]);
        }

        int swap(int cell, int other) {
            checkCell(cell);
            checkCell(other);
            long moved = cells[cell];
            cells[cell] = cells[other];
            return place(other, moved);
        }

        int putGreater(int one, int other, int into) {
            checkCells(one, other, into);
            return place(into, width.greater(cells[one], cells[other]));
        }

        int putLesser(int one, int other, int into) {
            checkCells(one, other, into);
            return place(into, width.lesser(cells[one], cells[other]));
        }

        int putSum(int one, int other, int into) {
            checkCells(one, other, into);
            if (!width.haveSum(cells[one], cells[other])) {
                return refuse();
            }
            return place(into, width.sum(cells[one], cells[other]));
        }

        int sort(int how) {
            checkChoice(how, 1);
            acts++;
            System.arraycopy(cells, 0, before, 0, CELLS);
            for (int next = 1; next < CELLS; next++) {
                insert(next);
            }
            int changed = 0;
            for (int cell = 0; cell < CELLS; cell++) {
                if (cells[cell] != before[cell]) {
                    changed++;
                }
            }
            return changed;
        }

        // The cells ahead of next stand in ORDER already.
        private void insert(int next) {
            long moved = cells[next];
            int free = next;
            while (free > 0 && width.order(cells[free - 1], moved) > 0) {
                cells[free] = cells[free - 1];
                free--;
            }
            cells[free] = moved;
        }

        int putEnd(boolean isGreatest, int into) {
            checkCell(into);
            long end = cells[0];
            for (int cell = 1; cell < CELLS; cell++) {
                end = isGreatest ? width.greater(end, cells[cell]) : width.lesser(end, cells[cell]);
            }
            return place(into, end);
        }

        int firstHalf(int cell) {
            checkCell(cell);
            return (int) (cells[cell] >>> 32);
        }

        int lastHalf(int cell) {
            checkCell(cell);
            return (int) cells[cell];
        }

        String text(int cell) {
            checkCell(cell);
            return width.text(cells[cell]);
        }

        int order(int one, int other, int how) {
            checkCell(one);
            checkCell(other);
            checkChoice(how, 2);
            return width.order(cells[one], cells[other]);
        }

        boolean areSame(int one, int other, int how) {
            return order(one, other, how) == 0;
        }

        // Nothing, a text, a NUMBER of the other WIDTH and a whole number are
        // never the SAME as a NUMBER of this WIDTH, whatever the cell has.
        boolean isEqualToOther(int cell, int what) {
            checkCell(cell);
            checkChoice(what, 3);
            return false;
        }

        boolean areLike(int one, int other) {
            checkCell(one);
            checkCell(other);
            return width.areLike(cells[one], cells[other]);
        }

        boolean isBelow(int one, int other, boolean orLike) {
            checkCell(one);
            checkCell(other);
            return width.isBelow(cells[one], cells[other]) || orLike && width.areLike(cells[one], cells[other]);
        }

        int hash(int cell, int how) {
            checkCell(cell);
            checkChoice(how, 1);
            return width.hash(cells[cell]);
        }

        boolean isEndless(int cell, int how) {
            checkCell(cell);
            checkChoice(how, 2);
            return width.isEndless(cells[cell]);
        }

        int quarters(int cell) {
            checkCell(cell);
            return width.quarters(cells[cell]);
        }

        int find(int cell, boolean isLast) {
            checkCell(cell);
            int found = cell;
            for (int place = 0; place < CELLS; place++) {
                boolean isBetter = isLast ? place > found : place < found;
                if (isBetter && cells[place] == cells[cell]) {
                    found = place;
                }
            }
            return found;
        }

        boolean has(int which) {
            checkChoice(which, LAST_KNOWN);
            long looked = width.known(which);
            for (int cell = 0; cell < CELLS; cell++) {
                if (cells[cell] == looked) {
                    return true;
                }
            }
            return false;
        }

        boolean isWellOrdered() {
            for (int one = 0; one < CELLS; one++) {
                if (width.isSpoiled(cells[one])) {
                    return false;
                }
                for (int other = 0; other < CELLS; other++) {
                    if (!width.isPairSound(cells[one], cells[other]) || !areChainsSound(cells[one], cells[other])) {
                        return false;
                    }
                }
            }
            return true;
        }

        private boolean areChainsSound(long first, long second) {
            for (int third = 0; third < CELLS; third++) {
                if (!width.isTripleSound(first, second, cells[third])) {
                    return false;
                }
            }
            return true;
        }

        private static void checkCells(int one, int other, int into) {
            checkCell(one);
            checkCell(other);
            checkCell(into);
        }

        private int refuse() {
            refusals++;
            return REFUSED;
        }

        private int place(int cell, long digits) {
            acts++;
            int changed = cells[cell] == digits ? 0 : 1;
            cells[cell] = digits;
            return changed;
        }
    }
}
