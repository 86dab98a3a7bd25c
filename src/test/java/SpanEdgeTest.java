/**
 * What must be in the SPAN, at both ends of both SPANs: the last number that is written and the first one
 * that is REFUSED; fits() and fitsWide() tell the same ahead of it. A method for each promise, or each sentence.
 */
public final class SpanEdgeTest {
    private static final int LEAST = Integer.MIN_VALUE;
    private static final int GREATEST = Integer.MAX_VALUE;
    private static final long WIDE_LEAST = Long.MIN_VALUE;
    private static final long WIDE_GREATEST = Long.MAX_VALUE;
    private static final int SUM = 0;
    private static final int DIFFERENCE = 1;
    private static final int PRODUCT = 2;
    private static final int QUOTIENT = 3;
    private static final int TURNED = 4;
    private static final String[] ACTS = {"plus", "less", "times", "over", "turn"};

    private SpanEdgeTest() {
    }

    public static void main(String[] args) {
        plus();
        less();
        times();
        over();
        upAndDown();
        turnAndSize();
        plusWide();
        lessWide();
        timesWide();
        overWide();
        upAndDownWide();
        turnAndSizeWide();
        restWithoutDivisor();
        timesMixed();
        restMixedIsInTheNarrowSpan();
        fit();
        widen();
        fullIsAlwaysInTheSpan();
        halves();
        signsOfProduct();
        means();
        quotientDoesNotFitForZeroAlone();
        turnedNeedsTwoCells();
        cellAheadOfWhat();
        Calls.end();
    }

    private static Object[] cells(int what) {
        return what == TURNED ? new Object[] {5, 0} : new Object[] {5, 0, 1};
    }

    private static void writes(int what, long x, long y, long want) {
        Edgecount house = Calls.narrows((int) x, (int) y);
        Calls.due(house, true, "fits", what, 0, 1);
        Calls.step(house, 1, ACTS[what], cells(what));
        Calls.due(house, want, "narrow", 5);
    }

    private static void refuses(int what, long x, long y) {
        Edgecount house = Calls.narrows((int) x, (int) y);
        Calls.due(house, false, "fits", what, 0, 1);
        // Nothing is counted of what fits() told.
        Calls.due(house, 0, "house", 1);
        Calls.refused(house, ACTS[what], cells(what));
    }

    private static void writesWide(int what, long x, long y, long want) {
        Edgecount house = Calls.wides(x, y);
        Calls.due(house, true, "fitsWide", what, 0, 1);
        Calls.step(house, 1, ACTS[what] + "Wide", cells(what));
        Calls.due(house, want, "wide", 5);
    }

    private static void refusesWide(int what, long x, long y) {
        Edgecount house = Calls.wides(x, y);
        Calls.due(house, false, "fitsWide", what, 0, 1);
        Calls.due(house, 0, "house", 1);
        Calls.refused(house, ACTS[what] + "Wide", cells(what));
    }

    /** Promise 3: a + b, which must be in the SPAN. */
    private static void plus() {
        writes(SUM, GREATEST - 1, 1, GREATEST);
        writes(SUM, GREATEST, 0, GREATEST);
        refuses(SUM, GREATEST, 1);
        refuses(SUM, 1, GREATEST);
        refuses(SUM, GREATEST, GREATEST);
        refuses(SUM, 1073741824, 1073741824);
        writes(SUM, 1073741824, 1073741823, GREATEST);
        writes(SUM, LEAST + 1, -1, LEAST);
        writes(SUM, LEAST, 0, LEAST);
        refuses(SUM, LEAST, -1);
        refuses(SUM, -1, LEAST);
        refuses(SUM, LEAST, LEAST);
        writes(SUM, -1073741824, -1073741824, LEAST);
        refuses(SUM, -1073741824, -1073741825);
        writes(SUM, LEAST, GREATEST, -1);
        writes(SUM, GREATEST, LEAST, -1);
    }

    /** Promise 4: a - b, which must be in the SPAN. */
    private static void less() {
        writes(DIFFERENCE, GREATEST - 1, -1, GREATEST);
        writes(DIFFERENCE, GREATEST, 0, GREATEST);
        refuses(DIFFERENCE, GREATEST, -1);
        refuses(DIFFERENCE, GREATEST, LEAST);
        writes(DIFFERENCE, -1, LEAST, GREATEST);
        refuses(DIFFERENCE, 0, LEAST);
        writes(DIFFERENCE, 0, LEAST + 1, GREATEST);
        writes(DIFFERENCE, LEAST + 1, 1, LEAST);
        writes(DIFFERENCE, LEAST, 0, LEAST);
        refuses(DIFFERENCE, LEAST, 1);
        refuses(DIFFERENCE, LEAST, GREATEST);
        writes(DIFFERENCE, -1, GREATEST, LEAST);
        refuses(DIFFERENCE, -2, GREATEST);
        writes(DIFFERENCE, LEAST, LEAST, 0);
        writes(DIFFERENCE, GREATEST, GREATEST, 0);
    }

    /** Promise 5: a * b, which must be in the SPAN. */
    private static void times() {
        writes(PRODUCT, GREATEST, 1, GREATEST);
        writes(PRODUCT, 46340, 46340, 2147395600);
        refuses(PRODUCT, 46341, 46341);
        refuses(PRODUCT, -46341, -46341);
        refuses(PRODUCT, 46341, -46341);
        // One above the greatest, one below LEAST, and what would go round to 0 or to 1.
        refuses(PRODUCT, 65536, 32768);
        refuses(PRODUCT, -65536, -32768);
        refuses(PRODUCT, 3, -715827883);
        refuses(PRODUCT, 65536, 65536);
        refuses(PRODUCT, 65536, -65536);
        refuses(PRODUCT, 641, 6700417);
        writes(PRODUCT, 3, 715827882, GREATEST - 1);
        writes(PRODUCT, 3, -715827882, LEAST + 2);
        writes(PRODUCT, -65536, 32768, LEAST);
        writes(PRODUCT, 32768, -65536, LEAST);
        writes(PRODUCT, LEAST, 1, LEAST);
        refuses(PRODUCT, LEAST, -1);
        refuses(PRODUCT, -1, LEAST);
        writes(PRODUCT, LEAST, 0, 0);
        writes(PRODUCT, GREATEST, -1, -GREATEST);
        refuses(PRODUCT, GREATEST, GREATEST);
        refuses(PRODUCT, LEAST, LEAST);
        refuses(PRODUCT, LEAST, 2);
    }

    /** Promise 6: that of LEAST by -1 GOES ROUND (to LEAST); REFUSED if b is 0. */
    private static void over() {
        writes(QUOTIENT, LEAST, -1, LEAST);
        writes(QUOTIENT, LEAST, 1, LEAST);
        writes(QUOTIENT, LEAST + 1, -1, GREATEST);
        writes(QUOTIENT, GREATEST, -1, LEAST + 1);
        writes(QUOTIENT, LEAST, LEAST, 1);
        writes(QUOTIENT, LEAST, GREATEST, -2);
        writes(QUOTIENT, GREATEST, LEAST, -1);
        writes(QUOTIENT, LEAST, -2, 1073741824);
        writes(QUOTIENT, GREATEST, -2, -1073741824);
        refuses(QUOTIENT, LEAST, 0);
        refuses(QUOTIENT, GREATEST, 0);
        refuses(QUOTIENT, 0, 0);
        writes(QUOTIENT, 0, -1, 0);
    }

    private static void one(boolean isWide, String act, long x, long want) {
        Edgecount house = isWide ? Calls.wides(x) : Calls.narrows((int) x);
        Calls.step(house, 1, act, 5, 0);
        Calls.due(house, want, isWide ? "wide" : "narrow", 5);
    }

    private static void refusesOne(boolean isWide, String act, long x) {
        Calls.refused(isWide ? Calls.wides(x) : Calls.narrows((int) x), act, 5, 0);
    }

    /** Promises 8 and 9: a + 1, a - 1, which must be in the SPAN. */
    private static void upAndDown() {
        one(false, "up", GREATEST - 1, GREATEST);
        refusesOne(false, "up", GREATEST);
        one(false, "up", LEAST, LEAST + 1);
        one(false, "up", -1, 0);
        one(false, "down", LEAST + 1, LEAST);
        refusesOne(false, "down", LEAST);
        one(false, "down", GREATEST, GREATEST - 1);
        one(false, "down", 0, -1);
    }

    /** Promises 10 and 11: -a must be in the SPAN; a without its sign GOES ROUND for LEAST. */
    private static void turnAndSize() {
        refuses(TURNED, LEAST, 0);
        writes(TURNED, LEAST + 1, 0, GREATEST);
        writes(TURNED, GREATEST, 0, LEAST + 1);
        writes(TURNED, 0, 0, 0);
        one(false, "size", LEAST, LEAST);
        one(false, "size", LEAST + 1, GREATEST);
        one(false, "size", GREATEST, GREATEST);
        one(false, "size", -1, 1);
        one(false, "size", 0, 0);
    }

    /** Promise 14: a + b, which must be in the SPAN. */
    private static void plusWide() {
        writesWide(SUM, WIDE_GREATEST - 1, 1, WIDE_GREATEST);
        writesWide(SUM, WIDE_GREATEST, 0, WIDE_GREATEST);
        refusesWide(SUM, WIDE_GREATEST, 1);
        refusesWide(SUM, 1, WIDE_GREATEST);
        refusesWide(SUM, WIDE_GREATEST, WIDE_GREATEST);
        refusesWide(SUM, 1L << 62, 1L << 62);
        writesWide(SUM, 1L << 62, (1L << 62) - 1, WIDE_GREATEST);
        writesWide(SUM, WIDE_LEAST + 1, -1, WIDE_LEAST);
        writesWide(SUM, WIDE_LEAST, 0, WIDE_LEAST);
        refusesWide(SUM, WIDE_LEAST, -1);
        refusesWide(SUM, -1, WIDE_LEAST);
        refusesWide(SUM, WIDE_LEAST, WIDE_LEAST);
        writesWide(SUM, -(1L << 62), -(1L << 62), WIDE_LEAST);
        refusesWide(SUM, -(1L << 62), -(1L << 62) - 1);
        writesWide(SUM, WIDE_LEAST, WIDE_GREATEST, -1);
        writesWide(SUM, WIDE_GREATEST, WIDE_LEAST, -1);
    }

    /** Promise 15: a - b, which must be in the SPAN. */
    private static void lessWide() {
        writesWide(DIFFERENCE, WIDE_GREATEST - 1, -1, WIDE_GREATEST);
        writesWide(DIFFERENCE, WIDE_GREATEST, 0, WIDE_GREATEST);
        refusesWide(DIFFERENCE, WIDE_GREATEST, -1);
        refusesWide(DIFFERENCE, WIDE_GREATEST, WIDE_LEAST);
        writesWide(DIFFERENCE, -1, WIDE_LEAST, WIDE_GREATEST);
        refusesWide(DIFFERENCE, 0, WIDE_LEAST);
        writesWide(DIFFERENCE, 0, WIDE_LEAST + 1, WIDE_GREATEST);
        writesWide(DIFFERENCE, WIDE_LEAST + 1, 1, WIDE_LEAST);
        writesWide(DIFFERENCE, WIDE_LEAST, 0, WIDE_LEAST);
        refusesWide(DIFFERENCE, WIDE_LEAST, 1);
        refusesWide(DIFFERENCE, WIDE_LEAST, WIDE_GREATEST);
        writesWide(DIFFERENCE, -1, WIDE_GREATEST, WIDE_LEAST);
        refusesWide(DIFFERENCE, -2, WIDE_GREATEST);
        writesWide(DIFFERENCE, WIDE_LEAST, WIDE_LEAST, 0);
        writesWide(DIFFERENCE, WIDE_GREATEST, WIDE_GREATEST, 0);
    }

    /** Promise 16: a * b, which must be in the SPAN. */
    private static void timesWide() {
        writesWide(PRODUCT, WIDE_GREATEST, 1, WIDE_GREATEST);
        writesWide(PRODUCT, 7, 1317624576693539401L, WIDE_GREATEST);
        writesWide(PRODUCT, 3037000499L, 3037000499L, 9223372030926249001L);
        refusesWide(PRODUCT, 3037000500L, 3037000500L);
        refusesWide(PRODUCT, 3037000500L, -3037000500L);
        // One above the greatest, one below LEAST, and what would go round to 0 or to 1.
        refusesWide(PRODUCT, 1L << 32, 1L << 31);
        refusesWide(PRODUCT, -(1L << 32), -(1L << 31));
        refusesWide(PRODUCT, 3, -3074457345618258603L);
        refusesWide(PRODUCT, 1L << 32, 1L << 32);
        refusesWide(PRODUCT, 1L << 32, -(1L << 32));
        refusesWide(PRODUCT, 274177, 67280421310721L);
        writesWide(PRODUCT, 3, -3074457345618258602L, WIDE_LEAST + 2);
        writesWide(PRODUCT, 1L << 32, -(1L << 31), WIDE_LEAST);
        writesWide(PRODUCT, -(1L << 32), 1L << 31, WIDE_LEAST);
        writesWide(PRODUCT, WIDE_LEAST, 1, WIDE_LEAST);
        refusesWide(PRODUCT, WIDE_LEAST, -1);
        refusesWide(PRODUCT, -1, WIDE_LEAST);
        writesWide(PRODUCT, WIDE_LEAST, 0, 0);
        writesWide(PRODUCT, WIDE_GREATEST, -1, -WIDE_GREATEST);
        refusesWide(PRODUCT, WIDE_GREATEST, WIDE_GREATEST);
        refusesWide(PRODUCT, WIDE_LEAST, WIDE_LEAST);
        refusesWide(PRODUCT, WIDE_LEAST, 2);
        refusesWide(PRODUCT, WIDE_GREATEST, 2);
    }

    /** Promise 17: that of LEAST by -1 GOES ROUND (to LEAST); REFUSED if b is 0. */
    private static void overWide() {
        writesWide(QUOTIENT, WIDE_LEAST, -1, WIDE_LEAST);
        writesWide(QUOTIENT, WIDE_LEAST, 1, WIDE_LEAST);
        writesWide(QUOTIENT, WIDE_LEAST + 1, -1, WIDE_GREATEST);
        writesWide(QUOTIENT, WIDE_GREATEST, -1, WIDE_LEAST + 1);
        writesWide(QUOTIENT, WIDE_LEAST, WIDE_LEAST, 1);
        writesWide(QUOTIENT, WIDE_LEAST, WIDE_GREATEST, -2);
        writesWide(QUOTIENT, WIDE_GREATEST, WIDE_LEAST, -1);
        writesWide(QUOTIENT, LEAST, -1, 2147483648L);
        writesWide(QUOTIENT, WIDE_LEAST, -2, 1L << 62);
        writesWide(QUOTIENT, WIDE_GREATEST, -2, -(1L << 62));
        refusesWide(QUOTIENT, WIDE_LEAST, 0);
        refusesWide(QUOTIENT, WIDE_GREATEST, 0);
        refusesWide(QUOTIENT, 0, 0);
        writesWide(QUOTIENT, 0, -1, 0);
    }

    /** Promises 19 and 20: a + 1, a - 1, which must be in the SPAN. */
    private static void upAndDownWide() {
        one(true, "upWide", WIDE_GREATEST - 1, WIDE_GREATEST);
        refusesOne(true, "upWide", WIDE_GREATEST);
        one(true, "upWide", WIDE_LEAST, WIDE_LEAST + 1);
        one(true, "upWide", GREATEST, 2147483648L);
        one(true, "upWide", -1, 0);
        one(true, "downWide", WIDE_LEAST + 1, WIDE_LEAST);
        refusesOne(true, "downWide", WIDE_LEAST);
        one(true, "downWide", WIDE_GREATEST, WIDE_GREATEST - 1);
        one(true, "downWide", LEAST, -2147483649L);
        one(true, "downWide", 0, -1);
    }

    /** Promises 21 and 22: -a must be in the SPAN; a without its sign GOES ROUND for LEAST. */
    private static void turnAndSizeWide() {
        refusesWide(TURNED, WIDE_LEAST, 0);
        writesWide(TURNED, WIDE_LEAST + 1, 0, WIDE_GREATEST);
        writesWide(TURNED, WIDE_GREATEST, 0, WIDE_LEAST + 1);
        writesWide(TURNED, LEAST, 0, 2147483648L);
        writesWide(TURNED, 0, 0, 0);
        one(true, "sizeWide", WIDE_LEAST, WIDE_LEAST);
        one(true, "sizeWide", WIDE_LEAST + 1, WIDE_GREATEST);
        one(true, "sizeWide", WIDE_GREATEST, WIDE_GREATEST);
        one(true, "sizeWide", LEAST, 2147483648L);
        one(true, "sizeWide", -1, 1);
        one(true, "sizeWide", 0, 0);
    }

    /** Promises 7, 18, 24 and 25: REFUSED if b is 0. */
    private static void restWithoutDivisor() {
        for (long x : new long[] {WIDE_LEAST, -1, 0, 1, WIDE_GREATEST}) {
            Edgecount house = Calls.wides(x);
            house.put(0, (int) x);
            house.putWide(1, 1, 0);
            house.put(2, 1);
            Calls.refused(house, "rest", 5, 0, 1);
            Calls.refused(house, "restWide", 5, 0, 2);
            Calls.refused(house, "overMixed", 5, 0, 1);
            Calls.refused(house, "restMixed", 5, 0, 1);
        }
    }

    private static void timesMixed(long x, int y, long want) {
        Edgecount house = Calls.wides(x);
        house.put(0, y);
        Calls.step(house, 1, "timesMixed", 5, 0, 0);
        Calls.due(house, want, "wide", 5);
    }

    private static void refusesMixed(long x, int y) {
        Edgecount house = Calls.wides(x);
        house.put(0, y);
        Calls.refused(house, "timesMixed", 5, 0, 0);
    }

    /** Promise 26: a * b, which must be in the SPAN, into a WIDE cell. */
    private static void timesMixed() {
        timesMixed(1317624576693539401L, 7, WIDE_GREATEST);
        timesMixed(WIDE_GREATEST, 1, WIDE_GREATEST);
        timesMixed(WIDE_GREATEST, -1, WIDE_LEAST + 1);
        refusesMixed(1L << 62, 2);
        refusesMixed(-(1L << 32), LEAST);
        timesMixed(1L << 32, LEAST, WIDE_LEAST);
        timesMixed(WIDE_LEAST, 1, WIDE_LEAST);
        timesMixed(WIDE_LEAST, 0, 0);
        refusesMixed(WIDE_LEAST, -1);
        refusesMixed(-3074457345618258603L, 3);
        timesMixed(-3074457345618258602L, 3, WIDE_LEAST + 2);
        refusesMixed(1L << 33, LEAST);
        refusesMixed(67280421310721L, 274177);
        refusesMixed(WIDE_LEAST, LEAST);
        refusesMixed(WIDE_GREATEST, GREATEST);
    }

    /** Promise 25: the REMAINDER, which lies between 0 and b, is written into a NARROW cell. */
    private static void restMixedIsInTheNarrowSpan() {
        long[][] rows = {
            {WIDE_LEAST, -1, 0}, {WIDE_LEAST, LEAST, 0}, {WIDE_GREATEST, LEAST, -1}, {1, LEAST, LEAST + 1},
            {2147483649L, LEAST, LEAST + 1}, {-1, GREATEST, GREATEST - 1}, {WIDE_LEAST, GREATEST, GREATEST - 2},
            {WIDE_GREATEST, GREATEST, 1}, {-2147483648L, GREATEST, GREATEST - 1}
        };
        for (long[] row : rows) {
            Edgecount house = Calls.wides(row[0]);
            house.put(0, (int) row[1]);
            Calls.step(house, 1, "restMixed", 5, 0, 0);
            Calls.due(house, row[2], "narrow", 5);
            Calls.due(house, 0, "wide", 5);
        }
    }

    /** Promise 27: what lies in a WIDE cell, which must be in the SPAN, into a NARROW one. */
    private static void fit() {
        for (long value : new long[] {LEAST, LEAST + 1, -1, 0, 1, GREATEST - 1, GREATEST}) {
            Edgecount house = Calls.wides(value);
            Calls.step(house, 1, "fit", 5, 0);
            Calls.due(house, value, "narrow", 5);
        }
        long[] others = {
            2147483648L, -2147483649L, 4294967295L, 4294967296L, 4294967297L, -4294967296L, -4294967297L,
            WIDE_LEAST, WIDE_GREATEST
        };
        for (long value : others) {
            refusesOne(true, "fit", value);
        }
    }

    /** Promise 28: what lies in a NARROW cell into a WIDE one. */
    private static void widen() {
        for (int value : new int[] {LEAST, -1, 0, GREATEST}) {
            Edgecount house = Calls.narrows(value);
            house.putWide(5, 7, 7);
            Calls.step(house, 1, "widen", 5, 0);
            Calls.due(house, value, "wide", 5);
        }
    }

    /** Promise 29: a * b of two NARROW cells (it is always in the SPAN). */
    private static void fullIsAlwaysInTheSpan() {
        int[] edges = {LEAST, LEAST + 1, -1, 0, 1, GREATEST - 1, GREATEST};
        for (int x : edges) {
            for (int y : edges) {
                Edgecount house = Calls.narrows(x, y);
                Calls.step(house, 1, "full", 5, 0, 1);
                Calls.due(house, (long) x * y, "wide", 5);
            }
        }
    }

    /** Promises 30, 31 and 37: FLOOR of a * b / 2^64, and a * b as it GOES ROUND. */
    private static void halves() {
        long[][] rows = {
            {0, 0, 0, 0}, {0, WIDE_LEAST, 0, 0}, {1, 1, 0, 1}, {-1, 1, -1, -1}, {-1, -1, 0, 1},
            {1, WIDE_LEAST, -1, WIDE_LEAST}, {-1, WIDE_LEAST, 0, WIDE_LEAST}, {-1, WIDE_GREATEST, -1, WIDE_LEAST + 1},
            {2, WIDE_LEAST, -1, 0}, {-2, WIDE_LEAST, 1, 0}, {2, WIDE_GREATEST, 0, -2}, {-2, WIDE_GREATEST, -1, 2},
            {1L << 32, 1L << 32, 1, 0}, {1L << 32, -(1L << 32), -1, 0}, {274177, 67280421310721L, 1, 1},
            {-274177, 67280421310721L, -2, -1}, {WIDE_LEAST, WIDE_LEAST, 1L << 62, 0},
            {WIDE_LEAST, WIDE_GREATEST, -(1L << 62), WIDE_LEAST},
            {WIDE_GREATEST, WIDE_GREATEST, (1L << 62) - 1, 1},
            {4294967295L, 4294967295L, 0, -8589934591L}, {-4294967295L, 4294967295L, -1, 8589934591L},
            {WIDE_LEAST + 1, WIDE_LEAST, (1L << 62) - 1, WIDE_LEAST}
        };
        for (long[] row : rows) {
            Edgecount house = Calls.wides(row[0], row[1]);
            Calls.due(house, row[2], "half", 0, 1, true);
            Calls.due(house, row[3], "half", 0, 1, false);
            Calls.due(house, 2, "house", 0);
            Calls.step(house, 1, "high", 5, 0, 1);
            Calls.due(house, row[2], "wide", 5);
            Calls.step(house, 1, "plain", 5, 0, 1);
            Calls.due(house, row[3], "wide", 5);
        }
    }

    /** Promise 36: a * b in full, in digits, "-" ahead of it if it is below 0. */
    private static void signsOfProduct() {
        Object[][] rows = {
            {0L, 0L, "0"}, {0L, -1L, "0"}, {WIDE_LEAST, 0L, "0"}, {-1L, 1L, "-1"}, {-1L, -1L, "1"}, {3L, 3L, "9"},
            {2L, 5L, "10"}, {-2L, 5L, "-10"}, {WIDE_GREATEST, 1L, "9223372036854775807"},
            {WIDE_LEAST, 1L, "-9223372036854775808"}, {WIDE_LEAST, -1L, "9223372036854775808"},
            {1L << 32, 1L << 32, "18446744073709551616"}, {1L << 32, -(1L << 32), "-18446744073709551616"},
            {274177L, 67280421310721L, "18446744073709551617"},
            {100000000000L, -100000000000L, "-10000000000000000000000"},
            {1000000000000000000L, 1000000000000000000L, "1000000000000000000000000000000000000"},
            {WIDE_LEAST, WIDE_LEAST, "85070591730234615865843651857942052864"},
            {WIDE_LEAST, WIDE_GREATEST, "-85070591730234615856620279821087277056"},
            {WIDE_GREATEST, WIDE_GREATEST, "85070591730234615847396907784232501249"},
            {1L << 62, 4L, "18446744073709551616"}, {WIDE_LEAST, 2L, "-18446744073709551616"},
            // Ten times a power of two: but for one place in the middle, all that is left of it is 0.
            {1L << 16, 5L << 17, "42949672960"}, {1L << 33, 5L << 32, "184467440737095516160"},
            {1L << 48, -5L << 49, "-792281625142643375935439503360"}
        };
        for (Object[] row : rows) {
            Edgecount house = Calls.wides((Long) row[0], (Long) row[1]);
            Calls.due(house, row[2], "product", 0, 1);
            Calls.due(house, row[2], "product", 1, 0);
            Calls.due(house, row[0], "wide", 0);
            Calls.due(house, 0, "house", 1);
        }
    }

    /** Promises 38 and 39: FLOOR of (a + b) / 2, also where a + b is not in the SPAN. */
    private static void means() {
        long[][] rows = {{7, 8, 7}, {-7, -8, -8}, {-1, 0, -1}, {-1, 1, 0}, {-1, 2, 0}, {-2, 1, -1}, {1, 2, 1}};
        for (long[] row : rows) {
            meansAre(row[0], row[1], row[2]);
        }
        Edgecount house = Calls.narrows(GREATEST, GREATEST - 1, LEAST, LEAST + 1);
        int[][] narrows = {
            {0, 0, GREATEST}, {0, 1, GREATEST - 1}, {1, 1, GREATEST - 1}, {2, 2, LEAST}, {2, 3, LEAST}, {3, 3, LEAST + 1},
            {0, 2, -1}, {0, 3, 0}, {1, 2, -1}, {0, 4, 1073741823}, {2, 4, -1073741824}, {3, 4, -1073741824}
        };
        for (int[] row : narrows) {
            Calls.due(house, row[2], "mean", row[0], row[1]);
            Calls.due(house, row[2], "mean", row[1], row[0]);
        }
        Edgecount wide = Calls.wides(WIDE_GREATEST, WIDE_GREATEST - 1, WIDE_LEAST, WIDE_LEAST + 1);
        long[][] wides = {
            {0, 0, WIDE_GREATEST}, {0, 1, WIDE_GREATEST - 1}, {1, 1, WIDE_GREATEST - 1}, {2, 2, WIDE_LEAST},
            {2, 3, WIDE_LEAST}, {3, 3, WIDE_LEAST + 1}, {0, 2, -1}, {0, 3, 0}, {1, 2, -1},
            {0, 4, (1L << 62) - 1}, {2, 4, -(1L << 62)}, {3, 4, -(1L << 62)}
        };
        for (long[] row : wides) {
            Calls.due(wide, row[2], "meanWide", (int) row[0], (int) row[1]);
            Calls.due(wide, row[2], "meanWide", (int) row[1], (int) row[0]);
        }
    }

    private static void meansAre(long x, long y, long want) {
        Edgecount house = Calls.wides(x, y);
        house.put(0, (int) x);
        house.put(1, (int) y);
        Calls.due(house, want, "mean", 0, 1);
        Calls.due(house, want, "meanWide", 0, 1);
        Calls.due(house, 4, "house", 0);
    }

    /** Promises 34 and 35: QUOTIENT of a by b (false for b 0 alone); nothing is counted. */
    private static void quotientDoesNotFitForZeroAlone() {
        int[] edges = {LEAST, LEAST + 1, -1, 0, 1, GREATEST};
        Edgecount house = Calls.narrows(edges);
        house.putWide(0, LEAST, 0);
        house.putWide(1, LEAST, 1);
        house.putWide(2, -1, -1);
        house.putWide(4, 0, 1);
        house.putWide(5, GREATEST, -1);
        String before = Calls.sight(house);
        for (int a = 0; a <= 5; a++) {
            for (int b = 0; b <= 5; b++) {
                Calls.due(house, b != 3, "fits", QUOTIENT, a, b);
                Calls.due(house, b != 3, "fitsWide", QUOTIENT, a, b);
            }
        }
        Calls.same("fits then what is seen", Calls.sight(house), before);
    }

    /** 4 -a (b must be a cell all the same) */
    private static void turnedNeedsTwoCells() {
        for (String name : new String[] {"fits", "fitsWide"}) {
            Calls.due(new Edgecount(), true, name, TURNED, 0, 5);
            for (int wrong : new int[] {-1, 6, LEAST, GREATEST}) {
                Calls.thrown(new Edgecount(), Calls.INDEX, name, TURNED, 0, wrong);
                Calls.thrown(new Edgecount(), Calls.INDEX, name, TURNED, wrong, 0);
            }
        }
    }

    /** If several exceptions apply, the one that is named first is thrown. */
    private static void cellAheadOfWhat() {
        for (String name : new String[] {"fits", "fitsWide"}) {
            for (int what : new int[] {-1, 5, LEAST, GREATEST}) {
                Calls.thrown(new Edgecount(), Calls.ARGUMENT, name, what, 0, 5);
                for (int wrong : new int[] {-1, 6, LEAST, GREATEST}) {
                    Calls.thrown(new Edgecount(), Calls.INDEX, name, what, wrong, 5);
                    Calls.thrown(new Edgecount(), Calls.INDEX, name, what, 5, wrong);
                    Calls.thrown(new Edgecount(), Calls.INDEX, name, what, wrong, wrong);
                }
            }
        }
    }
}
