/** Promises 24 to 39: cells of both widths, and what lies there or would be. */
public final class BothWidthsTest {
    private static final int LEAST = Integer.MIN_VALUE;
    private static final int GREATEST = Integer.MAX_VALUE;
    private static final long WIDE_LEAST = Long.MIN_VALUE;
    private static final long WIDE_GREATEST = Long.MAX_VALUE;
    private static final int[] FIRST = {0};
    private static final int[] FIRST_TWO = {0, 1};
    private static final int[] LAST_TWO = {1, 2};
    private static final int[] ALL_THREE = {0, 1, 2};

    private BothWidthsTest() {
    }

    public static void main(String[] args) {
        p24OverMixed();
        p25RestMixed();
        p26TimesMixed();
        p27Fit();
        p28Widen();
        p29Full();
        p30High();
        p31Plain();
        p32Narrow();
        p33Wide();
        p34Fits();
        p35FitsWide();
        p36Product();
        p37Half();
        p38Mean();
        p39MeanWide();
        Calls.end();
    }

    private static Edgecount mixed(long wide, int narrow) {
        Edgecount house = Calls.wides(wide);
        house.put(1, narrow);
        // What lies crosswise must not be taken for the two operands.
        house.put(0, 77);
        house.putWide(1, 0, 78);
        return house;
    }

    private static void writes(boolean isWide, long want, String act, long wide, int narrow) {
        Edgecount house = mixed(wide, narrow);
        Calls.step(house, 1, act, 5, 0, 1);
        Calls.due(house, want, isWide ? "wide" : "narrow", 5);
        Calls.due(house, 0, isWide ? "narrow" : "wide", 5);
        Calls.due(house, wide, "wide", 0);
        Calls.due(house, narrow, "narrow", 1);
    }

    private static void refuses(String act, long wide, int narrow) {
        Calls.refused(mixed(wide, narrow), act, 5, 0, 1);
    }

    private static void p24OverMixed() {
        writes(true, 3, "overMixed", 7, 2);
        writes(true, -4, "overMixed", 7, -2);
        writes(true, -4, "overMixed", -7, 2);
        writes(true, WIDE_LEAST, "overMixed", WIDE_LEAST, -1);
        writes(true, 2147483648L, "overMixed", LEAST, -1);
        writes(true, 4294967296L, "overMixed", WIDE_LEAST, LEAST);
        refuses("overMixed", 7, 0);
        Calls.cellsOnly("overMixed", ALL_THREE, 0, 1, 2);
    }

    private static void p25RestMixed() {
        writes(false, 1, "restMixed", 7, 2);
        writes(false, -1, "restMixed", 7, -2);
        writes(false, 1, "restMixed", -7, 2);
        writes(false, 0, "restMixed", WIDE_LEAST, -1);
        writes(false, LEAST + 1, "restMixed", 1, LEAST);
        writes(false, -1, "restMixed", WIDE_GREATEST, LEAST);
        writes(false, GREATEST - 1, "restMixed", -1, GREATEST);
        refuses("restMixed", 7, 0);
        Calls.cellsOnly("restMixed", ALL_THREE, 0, 1, 2);
    }

    private static void p26TimesMixed() {
        writes(true, -8589934592L, "timesMixed", 4294967296L, -2);
        writes(true, WIDE_LEAST, "timesMixed", 4294967296L, LEAST);
        writes(true, WIDE_GREATEST, "timesMixed", -WIDE_GREATEST, -1);
        writes(true, 0, "timesMixed", WIDE_LEAST, 0);
        refuses("timesMixed", WIDE_LEAST, -1);
        refuses("timesMixed", -4294967296L, LEAST);
        refuses("timesMixed", WIDE_GREATEST, 2);
        Calls.cellsOnly("timesMixed", ALL_THREE, 0, 1, 2);
    }

    private static void p27Fit() {
        fits(LEAST);
        fits(GREATEST);
        fits(-9);
        fits(0);
        for (long wide : new long[] {2147483648L, -2147483649L, 4294967296L, WIDE_LEAST, WIDE_GREATEST}) {
            Calls.refused(mixed(wide, 1), "fit", 5, 0);
        }
        Calls.cellsOnly("fit", FIRST_TWO, 0, 1);
    }

    private static void fits(int value) {
        Edgecount house = mixed(value, 1);
        Calls.step(house, 1, "fit", 5, 0);
        Calls.due(house, value, "narrow", 5);
        Calls.due(house, 0, "wide", 5);
    }

    private static void p28Widen() {
        for (int value : new int[] {LEAST, -1, 0, 7, GREATEST}) {
            Edgecount house = mixed(5, value);
            Calls.step(house, 1, "widen", 5, 1);
            Calls.due(house, value, "wide", 5);
            Calls.due(house, 0, "narrow", 5);
        }
        Calls.cellsOnly("widen", FIRST_TWO, 0, 1);
    }

    private static void p29Full() {
        fullWrites(4611686018427387904L, LEAST, LEAST);
        fullWrites(-4611686016279904256L, LEAST, GREATEST);
        fullWrites(4611686014132420609L, GREATEST, GREATEST);
        fullWrites(-42, -7, 6);
        fullWrites(0, 0, LEAST);
        Calls.cellsOnly("full", ALL_THREE, 0, 1, 2);
    }

    private static void fullWrites(long want, int x, int y) {
        Edgecount house = Calls.narrows(x, y);
        Calls.step(house, 1, "full", 5, 0, 1);
        Calls.due(house, want, "wide", 5);
        Calls.due(house, 0, "narrow", 5);
    }

    /** high(), plain() and half() tell the same halves, in either order of a and b. */
    private static void halves(long high, long low, long x, long y) {
        Edgecount house = Calls.wides(x, y);
        Calls.step(house, 1, "high", 2, 0, 1);
        Calls.due(house, high, "wide", 2);
        Calls.step(house, 1, "plain", 3, 0, 1);
        Calls.due(house, low, "wide", 3);
        Calls.due(house, high, "half", 0, 1, true);
        Calls.due(house, low, "half", 0, 1, false);
        Calls.due(house, high, "half", 1, 0, true);
        Calls.due(house, low, "half", 1, 0, false);
        Calls.step(house, 1, "high", 0, 0, 1);
        Calls.due(house, high, "wide", 0);
    }

    private static void p30High() {
        halves(0, 42, -7, -6);
        halves(-1, -42, -7, 6);
        halves(0, 0, 0, WIDE_LEAST);
        halves(4611686018427387904L, 0, WIDE_LEAST, WIDE_LEAST);
        halves(-4611686018427387904L, WIDE_LEAST, WIDE_LEAST, WIDE_GREATEST);
        Calls.cellsOnly("high", ALL_THREE, 0, 1, 2);
    }

    private static void p31Plain() {
        halves(4611686018427387903L, 1, WIDE_GREATEST, WIDE_GREATEST);
        halves(0, WIDE_LEAST, WIDE_LEAST, -1);
        halves(0, -8589934591L, 4294967295L, 4294967295L);
        halves(-1, 0, 4294967296L, -4294967296L);
        Calls.cellsOnly("plain", ALL_THREE, 0, 1, 2);
    }

    private static void p32Narrow() {
        Edgecount house = Calls.narrows(LEAST, 1, 2, 3, 4, -9);
        Calls.due(house, LEAST, "narrow", 0);
        Calls.due(house, 4, "narrow", 4);
        Calls.due(house, -9, "narrow", 5);
        Calls.due(house, 6, "house", 0);
        Calls.due(house, 0, "house", 1);
        Calls.cellsOnly("narrow", FIRST, 0);
    }

    private static void p33Wide() {
        Edgecount house = Calls.wides(WIDE_LEAST, 1, 2, 3, 4, -9);
        Calls.due(house, WIDE_LEAST, "wide", 0);
        Calls.due(house, 4, "wide", 4);
        Calls.due(house, -9, "wide", 5);
        Calls.due(house, 6, "house", 0);
        Calls.due(house, 0, "house", 1);
        Calls.cellsOnly("wide", FIRST, 0);
    }

    private static void p34Fits() {
        Edgecount house = Calls.narrows(GREATEST, LEAST, -1, 0, 46341, 46340);
        String before = Calls.sight(house);
        fitRow(house, "fits", 0, 1, 3);
        fitRow(house, "fits", 1, 0, 3);
        fitRow(house, "fits", 2, 5, 5);
        fitRow(house, "fits", 3, 1, 2);
        fitRow(house, "fits", 4, 0, 1);
        unfitRow(house, "fits", 0, 1, 2);
        unfitRow(house, "fits", 0, 0, 4);
        unfitRow(house, "fits", 1, 3, 1);
        unfitRow(house, "fits", 1, 0, 2);
        unfitRow(house, "fits", 2, 4, 4);
        unfitRow(house, "fits", 2, 1, 2);
        unfitRow(house, "fits", 3, 1, 3);
        unfitRow(house, "fits", 3, 3, 3);
        unfitRow(house, "fits", 4, 1, 0);
        Calls.same("fits then what is seen", Calls.sight(house), before);
        wrongFits("fits");
    }

    private static void p35FitsWide() {
        Edgecount house = Calls.wides(WIDE_GREATEST, WIDE_LEAST, -1, 0, 3037000500L, 3037000499L);
        String before = Calls.sight(house);
        fitRow(house, "fitsWide", 0, 1, 3);
        fitRow(house, "fitsWide", 1, 0, 3);
        fitRow(house, "fitsWide", 2, 5, 5);
        fitRow(house, "fitsWide", 3, 1, 2);
        fitRow(house, "fitsWide", 4, 0, 1);
        unfitRow(house, "fitsWide", 0, 1, 2);
        unfitRow(house, "fitsWide", 0, 0, 4);
        unfitRow(house, "fitsWide", 1, 3, 1);
        unfitRow(house, "fitsWide", 1, 0, 2);
        unfitRow(house, "fitsWide", 2, 4, 4);
        unfitRow(house, "fitsWide", 2, 1, 2);
        unfitRow(house, "fitsWide", 3, 1, 3);
        unfitRow(house, "fitsWide", 3, 3, 3);
        unfitRow(house, "fitsWide", 4, 1, 0);
        Calls.same("fitsWide then what is seen", Calls.sight(house), before);
        wrongFits("fitsWide");
    }

    /** What would be written of the cells a and b, and of the cells 2 and 5, too. */
    private static void fitRow(Edgecount house, String name, int what, int a, int b) {
        Calls.due(house, true, name, what, a, b);
        Calls.due(house, true, name, what, 2, 5);
    }

    private static void unfitRow(Edgecount house, String name, int what, int a, int b) {
        Calls.due(house, false, name, what, a, b);
    }

    private static void wrongFits(String name) {
        for (int what : new int[] {-1, 5, LEAST, GREATEST}) {
            Calls.thrown(new Edgecount(), Calls.ARGUMENT, name, what, 0, 0);
            Calls.thrown(new Edgecount(), Calls.INDEX, name, what, 6, 0);
            Calls.thrown(new Edgecount(), Calls.INDEX, name, what, 0, -1);
        }
        Calls.cellsOnly(name, LAST_TWO, 0, 1, 2);
        Calls.cellsOnly(name, LAST_TWO, 4, 1, 2);
    }

    private static void p36Product() {
        products("0", 0, WIDE_LEAST);
        products("0", 0, 0);
        products("-42", -7, 6);
        products("42", -7, -6);
        products("10", 2, 5);
        products("100000000000000000000", 10000000000L, 10000000000L);
        products("9223372036854775808", WIDE_LEAST, -1);
        products("-9223372036854775808", WIDE_LEAST, 1);
        products("18446744065119617025", 4294967295L, 4294967295L);
        products("85070591730234615865843651857942052864", WIDE_LEAST, WIDE_LEAST);
        products("-85070591730234615856620279821087277056", WIDE_LEAST, WIDE_GREATEST);
        products("85070591730234615847396907784232501249", WIDE_GREATEST, WIDE_GREATEST);
        Calls.cellsOnly("product", FIRST_TWO, 0, 1);
    }

    private static void products(String want, long x, long y) {
        Edgecount house = Calls.wides(x, y);
        String before = Calls.sight(house);
        Calls.due(house, want, "product", 0, 1);
        Calls.due(house, want, "product", 1, 0);
        Calls.same("product then what is seen", Calls.sight(house), before);
    }

    private static void p37Half() {
        Edgecount house = Calls.wides(WIDE_LEAST, 3);
        String before = Calls.sight(house);
        Calls.due(house, -2, "half", 0, 1, true);
        Calls.due(house, WIDE_LEAST, "half", 0, 1, false);
        Calls.due(house, 0, "half", 1, 1, true);
        Calls.due(house, 9, "half", 1, 1, false);
        Calls.same("half then what is seen", Calls.sight(house), before);
        Calls.cellsOnly("half", FIRST_TWO, 0, 1, true);
        Calls.cellsOnly("half", FIRST_TWO, 0, 1, false);
    }

    private static void p38Mean() {
        Edgecount house = Calls.narrows(GREATEST, LEAST, -1, -7, 8, GREATEST - 1);
        String before = Calls.sight(house);
        Calls.due(house, GREATEST, "mean", 0, 0);
        Calls.due(house, LEAST, "mean", 1, 1);
        Calls.due(house, -1, "mean", 0, 1);
        Calls.due(house, -1073741825, "mean", 1, 2);
        Calls.due(house, -4, "mean", 3, 2);
        Calls.due(house, 0, "mean", 3, 4);
        Calls.due(house, 3, "mean", 2, 4);
        Calls.due(house, GREATEST - 1, "mean", 0, 5);
        Calls.same("mean then what is seen", Calls.sight(house), before);
        Calls.cellsOnly("mean", FIRST_TWO, 0, 1);
    }

    private static void p39MeanWide() {
        Edgecount house = Calls.wides(WIDE_GREATEST, WIDE_LEAST, -1, -7, 8, WIDE_GREATEST - 1);
        String before = Calls.sight(house);
        Calls.due(house, WIDE_GREATEST, "meanWide", 0, 0);
        Calls.due(house, WIDE_LEAST, "meanWide", 1, 1);
        Calls.due(house, -1, "meanWide", 0, 1);
        Calls.due(house, -4611686018427387905L, "meanWide", 1, 2);
        Calls.due(house, -4, "meanWide", 3, 2);
        Calls.due(house, 0, "meanWide", 3, 4);
        Calls.due(house, 3, "meanWide", 2, 4);
        Calls.due(house, WIDE_GREATEST - 1, "meanWide", 0, 5);
        Calls.same("meanWide then what is seen", Calls.sight(house), before);
        Calls.cellsOnly("meanWide", FIRST_TWO, 0, 1);
    }
}
