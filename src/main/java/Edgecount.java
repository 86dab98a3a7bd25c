/**
 * A counting house with cells of two widths, a ledger, and steps that are undone.
 * Rows are made once, in constructors, because what a run makes is never given back.
 */
public final class Edgecount {
    private static final int NONE = -1;
    private static final int REFUSED = -9;
    private static final int DONE = 1;

    private static final int CELLS = 6;
    private static final int MOST_ENTRIES = 20;
    private static final int MOST_STEPS = 8;

    private static final int SUM = 0;
    private static final int DIFFERENCE = 1;
    private static final int PRODUCT = 2;
    private static final int QUOTIENT = 3;
    private static final int TURNED = 4;
    private static final int REMAINDER = 5;

    private static final int LEAST_BASE = -10;
    private static final int GREATEST_BASE = -2;
    private static final int GREATEST_PLACE = 40;
    // A product has 38 digits at most, a narrow number 33 in base -2.
    private static final int MOST_DIGITS = 40;
    private static final int HORNER_REACH = 36;
    private static final int MOST_ROWS = 99;
    private static final long WEEK = 7;
    private static final long DAY = 1440;

    private static final int LEAST_NARROW = -2147483648;
    private static final int GREATEST_NARROW = 2147483647;
    private static final long LEAST_WIDE = -9223372036854775808L;
    private static final long GREATEST_WIDE = 9223372036854775807L;

    private static final int LIMBS = 4;
    private static final int LIMB_BITS = 32;
    private static final long LIMB_MASK = 0xFFFFFFFFL;

    private final State now;
    private final State[] steps;
    private final DigitRow row;
    private final FullProduct multiplied;
    private int newest;
    private int kept;
    private int refusals;
    private int knocks;

    public Edgecount() {
        now = new State();
        steps = new State[MOST_STEPS];
        for (int i = 0; i < MOST_STEPS; i++) {
            steps[i] = new State();
        }
        row = new DigitRow();
        multiplied = new FullProduct();
        newest = 0;
        kept = 0;
        refusals = 0;
        knocks = 0;
    }

    // ---- narrow cells

    public int put(int cell, int value) throws IndexOutOfBoundsException {
        checkCell(cell);
        int before = now.narrowCells[cell];
        writeNarrow(cell, value);
        return before;
    }

    public int plus(int to, int a, int b) throws IndexOutOfBoundsException {
        return actNarrow(SUM, to, a, b);
    }

    public int less(int to, int a, int b) throws IndexOutOfBoundsException {
        return actNarrow(DIFFERENCE, to, a, b);
    }

    public int times(int to, int a, int b) throws IndexOutOfBoundsException {
        return actNarrow(PRODUCT, to, a, b);
    }

    public int over(int to, int a, int b) throws IndexOutOfBoundsException {
        return actNarrow(QUOTIENT, to, a, b);
    }

    public int rest(int to, int a, int b) throws IndexOutOfBoundsException {
        return actNarrow(REMAINDER, to, a, b);
    }

    public int up(int to, int a) throws IndexOutOfBoundsException {
        checkCells(to, a);
        return settleNarrow(SUM, to, now.narrowCells[a], 1);
    }

    public int down(int to, int a) throws IndexOutOfBoundsException {
        checkCells(to, a);
        return settleNarrow(DIFFERENCE, to, now.narrowCells[a], 1);
    }

    public int turn(int to, int a) throws IndexOutOfBoundsException {
        checkCells(to, a);
        return settleNarrow(TURNED, to, now.narrowCells[a], 0);
    }

    public int size(int to, int a) throws IndexOutOfBoundsException {
        checkCells(to, a);
        return writeNarrow(to, narrowSize(now.narrowCells[a]));
    }

    public int pick(int to, int a, int b, boolean isGreater) throws IndexOutOfBoundsException {
        checkCells(to, a, b);
        int x = now.narrowCells[a];
        int y = now.narrowCells[b];
        return writeNarrow(to, isGreater ? Math.max(x, y) : Math.min(x, y));
    }

    // ---- wide cells

    public long putWide(int cell, int high, int low) throws IndexOutOfBoundsException {
        checkCell(cell);
        long before = now.wideCells[cell];
        writeWide(cell, ((long) high << LIMB_BITS) | (low & LIMB_MASK));
        return before;
    }

    public int plusWide(int to, int a, int b) throws IndexOutOfBoundsException {
        return actWide(SUM, to, a, b);
    }

    public int lessWide(int to, int a, int b) throws IndexOutOfBoundsException {
        return actWide(DIFFERENCE, to, a, b);
    }

    public int timesWide(int to, int a, int b) throws IndexOutOfBoundsException {
        return actWide(PRODUCT, to, a, b);
    }

    public int overWide(int to, int a, int b) throws IndexOutOfBoundsException {
        return actWide(QUOTIENT, to, a, b);
    }

    public int restWide(int to, int a, int b) throws IndexOutOfBoundsException {
        return actWide(REMAINDER, to, a, b);
    }

    public int upWide(int to, int a) throws IndexOutOfBoundsException {
        checkCells(to, a);
        return settleWide(SUM, to, now.wideCells[a], 1);
    }

    public int downWide(int to, int a) throws IndexOutOfBoundsException {
        checkCells(to, a);
        return settleWide(DIFFERENCE, to, now.wideCells[a], 1);
    }

    public int turnWide(int to, int a) throws IndexOutOfBoundsException {
        checkCells(to, a);
        return settleWide(TURNED, to, now.wideCells[a], 0);
    }

    public int sizeWide(int to, int a) throws IndexOutOfBoundsException {
        checkCells(to, a);
        return writeWide(to, withoutSign(now.wideCells[a]));
    }

    public int pickWide(int to, int a, int b, boolean isGreater) throws IndexOutOfBoundsException {
        checkCells(to, a, b);
        long x = now.wideCells[a];
        long y = now.wideCells[b];
        return writeWide(to, isGreater ? Math.max(x, y) : Math.min(x, y));
    }

    // ---- cells of both widths

    public int overMixed(int to, int a, int b) throws IndexOutOfBoundsException {
        checkCells(to, a, b);
        return settleWide(QUOTIENT, to, now.wideCells[a], now.narrowCells[b]);
    }

    public int restMixed(int to, int a, int b) throws IndexOutOfBoundsException {
        checkCells(to, a, b);
        // A REMAINDER lies nearer to 0 than b does, so it is always in the narrow SPAN.
        return settleNarrow(REMAINDER, to, now.wideCells[a], now.narrowCells[b]);
    }

    public int timesMixed(int to, int a, int b) throws IndexOutOfBoundsException {
        checkCells(to, a, b);
        return settleWide(PRODUCT, to, now.wideCells[a], now.narrowCells[b]);
    }

    public int fit(int to, int a) throws IndexOutOfBoundsException {
        checkCells(to, a);
        long value = now.wideCells[a];
        return isNarrow(value) ? writeNarrow(to, (int) value) : refuse();
    }

    public int widen(int to, int a) throws IndexOutOfBoundsException {
        checkCells(to, a);
        return writeWide(to, now.narrowCells[a]);
    }

    public int full(int to, int a, int b) throws IndexOutOfBoundsException {
        checkCells(to, a, b);
        return writeWide(to, (long) now.narrowCells[a] * now.narrowCells[b]);
    }

    public int high(int to, int a, int b) throws IndexOutOfBoundsException {
        checkCells(to, a, b);
        return writeWide(to, upperHalf(now.wideCells[a], now.wideCells[b]));
    }

    public int plain(int to, int a, int b) throws IndexOutOfBoundsException {
        checkCells(to, a, b);
        return writeWide(to, outcome(PRODUCT, now.wideCells[a], now.wideCells[b]));
    }

    // ---- what lies there, and what would be

    public int narrow(int cell) throws IndexOutOfBoundsException {
        checkCell(cell);
        return now.narrowCells[cell];
    }

    public long wide(int cell) throws IndexOutOfBoundsException {
        checkCell(cell);
        return now.wideCells[cell];
    }

    public boolean fits(int what, int a, int b) throws IndexOutOfBoundsException, IllegalArgumentException {
        checkCells(a, b);
        checkArgument(isWithin(what, SUM, TURNED));
        return isWrittenNarrow(what, now.narrowCells[a], now.narrowCells[b]);
    }

    public boolean fitsWide(int what, int a, int b) throws IndexOutOfBoundsException, IllegalArgumentException {
        checkCells(a, b);
        checkArgument(isWithin(what, SUM, TURNED));
        return isWrittenWide(what, now.wideCells[a], now.wideCells[b]);
    }

    public String product(int a, int b) throws IndexOutOfBoundsException {
        checkCells(a, b);
        multiplied.multiply(now.wideCells[a], now.wideCells[b]);
        row.takeProduct(multiplied);
        return row.text(multiplied.isBelowZero);
    }

    public long half(int a, int b, boolean isHigh) throws IndexOutOfBoundsException {
        checkCells(a, b);
        long x = now.wideCells[a];
        long y = now.wideCells[b];
        return isHigh ? upperHalf(x, y) : outcome(PRODUCT, x, y);
    }

    public int mean(int a, int b) throws IndexOutOfBoundsException {
        checkCells(a, b);
        return narrowMean(now.narrowCells[a], now.narrowCells[b]);
    }

    public long meanWide(int a, int b) throws IndexOutOfBoundsException {
        checkCells(a, b);
        return wideMean(now.wideCells[a], now.wideCells[b]);
    }

    // ---- ledger

    public int enter(int amount) throws IllegalStateException {
        if (now.entryCount >= MOST_ENTRIES) {
            throw new IllegalStateException("the draft is full");
        }
        remember();
        now.entries[now.entryCount] = amount;
        now.entryCount++;
        return now.entryCount;
    }

    public int strike() {
        if (now.entryCount == 0) {
            return refuse();
        }
        remember();
        now.entryCount--;
        return now.entryCount;
    }

    public int book() {
        if (now.entryThatGoesOver() != NONE) {
            return refuse();
        }
        remember();
        return now.bookAll();
    }

    public int which() {
        return now.entryThatGoesOver();
    }

    public int ledger(int what) throws IllegalArgumentException {
        checkArgument(isWithin(what, 0, 2));
        if (what == 0) {
            return now.balance;
        }
        return what == 1 ? now.entryCount : now.booked;
    }

    public int draft(int k) throws IndexOutOfBoundsException {
        if (k < 0 || k >= now.entryCount) {
            throw new IndexOutOfBoundsException("no such entry");
        }
        return now.entries[k];
    }

    public int horner(int to, int base) throws IndexOutOfBoundsException, IllegalArgumentException {
        checkCell(to);
        checkArgument(isWithin(base, -HORNER_REACH, HORNER_REACH));
        long soFar = 0;
        for (int k = 0; k < now.entryCount; k++) {
            soFar *= base;
            if (!isNarrow(soFar)) {
                return refuse();
            }
            soFar += now.entries[k];
            if (!isNarrow(soFar)) {
                return refuse();
            }
        }
        return writeNarrow(to, (int) soFar);
    }

    // ---- weeks, hours, pages

    public int weekday(int first, int days) throws IllegalArgumentException {
        checkArgument(isWithin(first, 0, WEEK - 1));
        return (int) Math.floorMod((long) first + days, WEEK);
    }

    public int weeks(int first, int days) throws IllegalArgumentException {
        checkArgument(isWithin(first, 0, WEEK - 1));
        return (int) Math.floorDiv((long) first + days, WEEK);
    }

    public int clock(int minute, int away) throws IllegalArgumentException {
        checkArgument(isWithin(minute, 0, DAY - 1));
        return (int) Math.floorMod((long) minute + away, DAY);
    }

    public int daysOn(int minute, int away) throws IllegalArgumentException {
        checkArgument(isWithin(minute, 0, DAY - 1));
        return (int) Math.floorDiv((long) minute + away, DAY);
    }

    public int page(int place, int rows, int columns, int what) throws IllegalArgumentException {
        checkArgument(isWithin(rows, 1, MOST_ROWS) && isWithin(columns, 1, MOST_ROWS) && isWithin(what, 0, 2));
        int placesOnPage = rows * columns;
        if (what == 0) {
            return Math.floorDiv(place, placesOnPage);
        }
        if (what == 1) {
            return Math.floorDiv(Math.floorMod(place, placesOnPage), columns);
        }
        return Math.floorMod(place, columns);
    }

    // ---- digits

    public String digits(int value, int base) throws IllegalArgumentException {
        checkArgument(isWithin(base, LEAST_BASE, GREATEST_BASE));
        row.takeInBase(value, base);
        return row.text(false);
    }

    public int digit(int value, int base, int k) throws IllegalArgumentException {
        checkArgument(isWithin(base, LEAST_BASE, GREATEST_BASE) && isWithin(k, 0, GREATEST_PLACE));
        row.takeInBase(value, base);
        return row.at(k);
    }

    // ---- all

    public int undo() throws IllegalStateException {
        if (kept == 0) {
            throw new IllegalStateException("no step can be undone");
        }
        now.copyFrom(steps[newest]);
        newest = newest == 0 ? MOST_STEPS - 1 : newest - 1;
        kept--;
        return kept;
    }

    public int knock() {
        knocks++;
        return knocks;
    }

    public int house(int what) throws IllegalArgumentException {
        checkArgument(isWithin(what, 0, 2));
        if (what == 0) {
            return kept;
        }
        return what == 1 ? refusals : knocks;
    }

    public boolean isSound() {
        for (int a = 0; a < CELLS; a++) {
            if (!isNarrowCellSound(now.narrowCells[a]) || !isWideCellSound(now.wideCells[a])) {
                return false;
            }
            for (int b = 0; b < CELLS; b++) {
                if (!isNarrowPairSound(now.narrowCells[a], now.narrowCells[b])
                        || !isWidePairSound(now.wideCells[a], now.wideCells[b])) {
                    return false;
                }
            }
        }
        return true;
    }

    public long digest() {
        long d = 4912;
        d = digestOfLedger(d);
        for (int cell = 0; cell < CELLS; cell++) {
            d = digestOfNarrow(d, cell);
        }
        for (int cell = 0; cell < CELLS; cell++) {
            d = digestOfWide(d, cell);
        }
        for (int cell = 0; cell < CELLS; cell++) {
            d = digestOfFits(d, cell);
        }
        return mixed(d, isSound() ? 1 : 0);
    }

    // ---- parts of the digest

    private static long mixed(long d, long v) {
        return d * 31 + v;
    }

    private long digestOfLedger(long start) {
        long d = start;
        for (int what = 0; what <= 2; what++) {
            d = mixed(d, house(what));
        }
        for (int what = 0; what <= 2; what++) {
            d = mixed(d, ledger(what));
        }
        for (int k = 0; k < now.entryCount; k++) {
            d = mixed(d, now.entries[k]);
        }
        return mixed(d, which());
    }

    private long digestOfNarrow(long start, int cell) {
        int value = now.narrowCells[cell];
        long d = mixed(start, value);
        d = mixed(d, mean(cell, 0));
        row.takeInBase(value, GREATEST_BASE);
        for (int k = 0; k <= 3; k++) {
            d = mixed(d, row.at(k));
        }
        d = mixed(d, weekday(3, value));
        for (int what = 0; what <= 2; what++) {
            d = mixed(d, page(value, 7, 5, what));
        }
        return d;
    }

    private long digestOfWide(long start, int cell) {
        long d = mixed(start, now.wideCells[cell]);
        d = mixed(d, meanWide(cell, 0));
        d = mixed(d, half(cell, 0, true));
        d = mixed(d, half(cell, 0, false));
        return mixed(d, productLength(cell, 0));
    }

    /** How many signs product() tells, without making its text. */
    private int productLength(int a, int b) {
        multiplied.multiply(now.wideCells[a], now.wideCells[b]);
        row.takeProduct(multiplied);
        return multiplied.isBelowZero ? row.count + 1 : row.count;
    }

    private long digestOfFits(long start, int cell) {
        long d = start;
        for (int what = SUM; what <= TURNED; what++) {
            d = mixed(d, fits(what, cell, 1) ? 1 : 0);
            d = mixed(d, fitsWide(what, cell, 1) ? 1 : 0);
        }
        return d;
    }

    // ---- what must hold of the arguments

    private static boolean isWithin(long n, long least, long greatest) {
        return n >= least && n <= greatest;
    }

    private static void checkArgument(boolean isRight) {
        if (!isRight) {
            throw new IllegalArgumentException("an argument is out of its bounds");
        }
    }

    private static void checkCell(int cell) {
        if (cell < 0 || cell >= CELLS) {
            throw new IndexOutOfBoundsException("no such cell");
        }
    }

    private static void checkCells(int a, int b) {
        checkCell(a);
        checkCell(b);
    }

    private static void checkCells(int to, int a, int b) {
        checkCell(to);
        checkCell(a);
        checkCell(b);
    }

    // ---- writing, and what comes with it

    private void remember() {
        newest = newest == MOST_STEPS - 1 ? 0 : newest + 1;
        steps[newest].copyFrom(now);
        if (kept < MOST_STEPS) {
            kept++;
        }
    }

    private int refuse() {
        refusals++;
        return REFUSED;
    }

    private int writeNarrow(int to, int value) {
        remember();
        now.narrowCells[to] = value;
        return DONE;
    }

    private int writeWide(int to, long value) {
        remember();
        now.wideCells[to] = value;
        return DONE;
    }

    private int actNarrow(int what, int to, int a, int b) {
        checkCells(to, a, b);
        return settleNarrow(what, to, now.narrowCells[a], now.narrowCells[b]);
    }

    private int actWide(int what, int to, int a, int b) {
        checkCells(to, a, b);
        return settleWide(what, to, now.wideCells[a], now.wideCells[b]);
    }

    private int settleNarrow(int what, int to, long x, long y) {
        if (!isWrittenNarrow(what, x, y)) {
            return refuse();
        }
        // The cast is what lets the QUOTIENT of LEAST by -1 go round; all else fits.
        return writeNarrow(to, (int) outcome(what, x, y));
    }

    private int settleWide(int what, int to, long x, long y) {
        if (!isWrittenWide(what, x, y)) {
            return refuse();
        }
        return writeWide(to, outcome(what, x, y));
    }

    // ---- arithmetic

    /** What comes of x and y, going round in the wide SPAN. */
    private static long outcome(int what, long x, long y) {
        switch (what) {
            case SUM:
                return x + y;
            case DIFFERENCE:
                return x - y;
            case PRODUCT:
                return x * y;
            case QUOTIENT:
                return y == 0 ? 0 : Math.floorDiv(x, y);
            case REMAINDER:
                return y == 0 ? 0 : Math.floorMod(x, y);
            default:
                return -x;
        }
    }

    private static boolean isDivision(int what) {
        return what == QUOTIENT || what == REMAINDER;
    }

    private static boolean isNarrow(long n) {
        return n == (int) n;
    }

    private static boolean isWrittenNarrow(int what, long x, long y) {
        // Two narrow numbers make nothing that would go round in a long.
        return isDivision(what) ? y != 0 : isNarrow(outcome(what, x, y));
    }

    private static boolean isWrittenWide(int what, long x, long y) {
        long n = outcome(what, x, y);
        switch (what) {
            case SUM:
                return ((x ^ n) & (y ^ n)) >= 0;
            case DIFFERENCE:
                return ((x ^ y) & (x ^ n)) >= 0;
            case PRODUCT:
                return upperHalf(x, y) == signHalf(n);
            case QUOTIENT:
            case REMAINDER:
                return y != 0;
            default:
                return x != LEAST_WIDE;
        }
    }

    /** The upper half of n, if n is written in twice its width. */
    private static long signHalf(long n) {
        return n < 0 ? -1 : 0;
    }

    private static long upperHalf(long x, long y) {
        long xHigh = x >> LIMB_BITS;
        long xLow = x & LIMB_MASK;
        long yHigh = y >> LIMB_BITS;
        long yLow = y & LIMB_MASK;
        long middle = xHigh * yLow + ((xLow * yLow) >>> LIMB_BITS);
        // The middle terms are added one by one: both at once could go round.
        long lowerMiddle = xLow * yHigh + (middle & LIMB_MASK);
        return xHigh * yHigh + (middle >> LIMB_BITS) + (lowerMiddle >> LIMB_BITS);
    }

    private static long withoutSign(long n) {
        return n < 0 ? -n : n;
    }

    private static int narrowSize(int n) {
        return (int) withoutSign(n);
    }

    private static int narrowMean(long x, long y) {
        return (int) ((x + y) >> 1);
    }

    private static long wideMean(long x, long y) {
        // x + y could go round: what both have in common counts twice, what differs once.
        return (x & y) + ((x ^ y) >> 1);
    }

    // ---- what isSound() looks at

    private static boolean isSizeSound(long size, long n, long least) {
        return (size == n || size == -n) && (size < 0) == (n == least);
    }

    private static boolean isMeanSound(long mean, long x, long y) {
        return mean >= Math.min(x, y) && mean <= Math.max(x, y);
    }

    private static boolean isRemainderSound(long remainder, long y) {
        if (remainder == 0) {
            return true;
        }
        return y > 0 ? isWithin(remainder, 1, y - 1) : isWithin(remainder, y + 1, -1);
    }

    private boolean isNarrowCellSound(int n) {
        if (!isSizeSound(narrowSize(n), n, LEAST_NARROW) || !isNarrowKept(TURNED, n, 0, -(long) n)) {
            return false;
        }
        for (int base = LEAST_BASE; base <= GREATEST_BASE; base++) {
            row.takeInBase(n, base);
            if (row.valueIn(base) != n) {
                return false;
            }
        }
        return true;
    }

    private static boolean isNarrowPairSound(int x, int y) {
        long wideX = x;
        return isNarrowDivisionSound(x, y)
                && isNarrowKept(SUM, x, y, wideX + y)
                && isNarrowKept(DIFFERENCE, x, y, wideX - y)
                && isNarrowKept(PRODUCT, x, y, wideX * y)
                && isMeanSound(narrowMean(x, y), x, y);
    }

    private static boolean isNarrowKept(int what, int x, int y, long exact) {
        if (!isWithin(exact, LEAST_NARROW, GREATEST_NARROW)) {
            return !isWrittenNarrow(what, x, y);
        }
        return isWrittenNarrow(what, x, y) && (int) outcome(what, x, y) == exact;
    }

    private static boolean isNarrowDivisionSound(int x, int y) {
        if (y == 0) {
            return true;
        }
        long quotient = outcome(QUOTIENT, x, y);
        long remainder = outcome(REMAINDER, x, y);
        return quotient * y + remainder == x
                && isRemainderSound(remainder, y)
                && Math.floorDiv(x, y) == (int) quotient;
    }

    private static boolean isWideCellSound(long n) {
        return isSizeSound(withoutSign(n), n, LEAST_WIDE)
                && isWideKept(TURNED, n, 0, n >= -GREATEST_WIDE, 0 - n);
    }

    private boolean isWidePairSound(long x, long y) {
        // Twice these is the sum and the difference, less what is odd: they can't go round.
        long halfSum = (x >> 1) + (y >> 1) + (x & y & 1);
        long halfDifference = (x >> 1) - (y >> 1) - (~x & y & 1);
        long odd = (x ^ y) & 1;
        // The product is made once more, limb by limb and without its sign.
        multiplied.multiply(x, y);
        long lower = multiplied.lower();
        long upper = multiplied.upper();
        return isWideDivisionSound(x, y)
                && isWideKept(SUM, x, y, isHalfOfWide(halfSum), (halfSum << 1) + odd)
                && isWideKept(DIFFERENCE, x, y, isHalfOfWide(halfDifference), (halfDifference << 1) + odd)
                && isWideKept(PRODUCT, x, y, upper == signHalf(lower), lower)
                && upperHalf(x, y) == upper
                && outcome(PRODUCT, x, y) == lower
                && isMeanSound(wideMean(x, y), x, y);
    }

    private static boolean isHalfOfWide(long n) {
        return isWithin(n, LEAST_WIDE >> 1, GREATEST_WIDE >> 1);
    }

    private static boolean isWideKept(int what, long x, long y, boolean isInSpan, long exact) {
        if (!isInSpan) {
            return !isWrittenWide(what, x, y);
        }
        return isWrittenWide(what, x, y) && outcome(what, x, y) == exact;
    }

    private static boolean isWideDivisionSound(long x, long y) {
        if (y == 0) {
            return true;
        }
        long quotient = outcome(QUOTIENT, x, y);
        long remainder = outcome(REMAINDER, x, y);
        if (x == LEAST_WIDE && y == -1) {
            return quotient == LEAST_WIDE && remainder == 0;
        }
        return isRemainderSound(remainder, y) && isMadeOf(x, quotient, y, remainder);
    }

    /** Whether quotient * y + remainder is n in full, not only as it goes round. */
    private static boolean isMadeOf(long n, long quotient, long y, long remainder) {
        long lower = quotient * y;
        long sum = lower + remainder;
        // Taking LEAST off both compares them as numbers without a sign.
        long carry = sum - LEAST_WIDE < lower - LEAST_WIDE ? 1 : 0;
        return sum == n && upperHalf(quotient, y) + signHalf(remainder) + carry == signHalf(n);
    }

    /** All that undoing brings back. */
    private static final class State {
        private final int[] narrowCells;
        private final long[] wideCells;
        private final int[] entries;
        private int entryCount;
        private int balance;
        private int booked;

        State() {
            narrowCells = new int[CELLS];
            wideCells = new long[CELLS];
            entries = new int[MOST_ENTRIES];
            entryCount = 0;
            balance = 0;
            booked = 0;
        }

        void copyFrom(State other) {
            System.arraycopy(other.narrowCells, 0, narrowCells, 0, CELLS);
            System.arraycopy(other.wideCells, 0, wideCells, 0, CELLS);
            System.arraycopy(other.entries, 0, entries, 0, MOST_ENTRIES);
            entryCount = other.entryCount;
            balance = other.balance;
            booked = other.booked;
        }

        int entryThatGoesOver() {
            long sum = balance;
            for (int k = 0; k < entryCount; k++) {
                sum += entries[k];
                if (!isNarrow(sum)) {
                    return k;
                }
            }
            return NONE;
        }

        /** Only for a DRAFT of which no ENTRY goes over. */
        int bookAll() {
            int count = entryCount;
            for (int k = 0; k < count; k++) {
                balance += entries[k];
            }
            booked += count;
            entryCount = 0;
            return count;
        }
    }

    /** A product without its sign, in limbs of 32 bits, the lowest one first; and its sign. */
    private static final class FullProduct {
        private final long[] limbs;
        private boolean isBelowZero;

        FullProduct() {
            limbs = new long[LIMBS];
            isBelowZero = false;
        }

        void multiply(long x, long y) {
            // LEAST without its sign stays LEAST, whose bits read without a sign are right.
            long xSize = withoutSign(x);
            long ySize = withoutSign(y);
            for (int i = 0; i < LIMBS; i++) {
                limbs[i] = 0;
            }
            addProduct(0, ySize, xSize & LIMB_MASK);
            addProduct(1, ySize, xSize >>> LIMB_BITS);
            isBelowZero = x != 0 && y != 0 && (x < 0) != (y < 0);
        }

        /** Adds size * factor from the limb 0 or 1 on; factor has one limb, size has two. */
        private void addProduct(int from, long size, long factor) {
            long low = (size & LIMB_MASK) * factor + limbs[from];
            long middle = (size >>> LIMB_BITS) * factor + limbs[from + 1] + (low >>> LIMB_BITS);
            limbs[from] = low & LIMB_MASK;
            limbs[from + 1] = middle & LIMB_MASK;
            limbs[from + 2] = middle >>> LIMB_BITS;
        }

        long lower() {
            long size = limbs[1] << LIMB_BITS | limbs[0];
            return isBelowZero ? -size : size;
        }

        long upper() {
            long size = limbs[3] << LIMB_BITS | limbs[2];
            if (!isBelowZero) {
                return size;
            }
            // Turning a number turns all bits and adds 1, which comes up here past zeros alone.
            return lower() == 0 ? -size : ~size;
        }

        boolean isUsedUp() {
            return (limbs[0] | limbs[1] | limbs[2] | limbs[3]) == 0;
        }

        int takeLastDigit() {
            long left = 0;
            for (int i = LIMBS - 1; i >= 0; i--) {
                long part = left << LIMB_BITS | limbs[i];
                limbs[i] = part / 10;
                left = part % 10;
            }
            return (int) left;
        }
    }

    /** Digits of one number, the last one written first. */
    private static final class DigitRow {
        private final int[] places;
        private int count;

        DigitRow() {
            places = new int[MOST_DIGITS];
            count = 0;
        }

        /** Uses up the limbs of the product, but leaves its sign. */
        void takeProduct(FullProduct from) {
            count = 0;
            do {
                places[count] = from.takeLastDigit();
                count++;
            } while (!from.isUsedUp() && count < MOST_DIGITS);
        }

        /** Only for a BASE of -10 to -2. */
        void takeInBase(int value, int base) {
            long left = value;
            count = 0;
            do {
                long last = Math.floorMod(left, -(long) base);
                places[count] = (int) last;
                count++;
                left = (left - last) / base;
            } while (left != 0 && count < MOST_DIGITS);
        }

        int at(int k) {
            return k >= 0 && k < count ? places[k] : 0;
        }

        long valueIn(int base) {
            long value = 0;
            for (int k = count - 1; k >= 0; k--) {
                value = value * base + places[k];
            }
            return value;
        }

        String text(boolean isBelowZero) {
            StringBuilder signs = new StringBuilder();
            if (isBelowZero) {
                signs.append('-');
            }
            for (int k = count - 1; k >= 0; k--) {
                signs.append((char) ('0' + places[k]));
            }
            return signs.toString();
        }
    }
}
