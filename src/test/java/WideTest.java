/** Promises 13 to 23: the wide cells. */
public final class WideTest {
    private static final long LEAST = Long.MIN_VALUE;
    private static final long GREATEST = Long.MAX_VALUE;
    private static final int[] ONE_CELL = {0};
    private static final int[] TWO_CELLS = {0, 1};
    private static final int[] THREE_CELLS = {0, 1, 2};

    private WideTest() {
    }

    public static void main(String[] args) {
        p13PutWide();
        p14PlusWide();
        p15LessWide();
        p16TimesWide();
        p17OverWide();
        p18RestWide();
        p19UpWide();
        p20DownWide();
        p21TurnWide();
        p22SizeWide();
        p23PickWide();
        Calls.end();
    }

    private static void writes(long want, String act, long x, long y) {
        Edgecount house = Calls.wides(x, y);
        Calls.step(house, 1, act, 5, 0, 1);
        Calls.due(house, want, "wide", 5);
        Calls.due(house, x, "wide", 0);
        Calls.due(house, y, "wide", 1);
        Calls.due(house, 0, "narrow", 5);
        Calls.due(house, 2, "undo");
        Calls.due(house, 0, "wide", 5);
    }

    private static void writesOfOne(long want, String act, long x) {
        Edgecount house = Calls.wides(x);
        Calls.step(house, 1, act, 5, 0);
        Calls.due(house, want, "wide", 5);
        Calls.due(house, x, "wide", 0);
        Calls.due(house, 0, "narrow", 5);
        Calls.due(house, 1, "undo");
        Calls.due(house, 0, "wide", 5);
    }

    private static void refuses(String act, long x, long y) {
        Calls.refused(Calls.wides(x, y), act, 5, 0, 1);
    }

    private static void refusesOne(String act, long x) {
        Calls.refused(Calls.wides(x), act, 5, 0);
    }

    private static void p13PutWide() {
        Edgecount house = new Edgecount();
        Calls.step(house, 0, "putWide", 0, 0, -1);
        Calls.step(house, 4294967295L, "putWide", 0, 1, 0);
        Calls.step(house, 4294967296L, "putWide", 0, -1, -7);
        Calls.step(house, -7, "putWide", 0, -1, 0);
        Calls.step(house, -4294967296L, "putWide", 0, Integer.MIN_VALUE, 0);
        Calls.step(house, LEAST, "putWide", 0, Integer.MAX_VALUE, -1);
        Calls.step(house, GREATEST, "putWide", 0, 0, Integer.MIN_VALUE);
        Calls.step(house, 2147483648L, "putWide", 0, -1, -9);
        Calls.due(house, -9, "putWide", 0, 0, 5);
        Calls.due(house, 5, "wide", 0);
        Calls.due(house, 0, "wide", 1);
        Calls.due(house, 0, "narrow", 0);
        Calls.due(house, 0, "house", 1);
        Calls.cellsOnly("putWide", ONE_CELL, 0, 7, 8);
    }

    private static void p14PlusWide() {
        writes(-6, "plusWide", -7, 1);
        writes(4294967296L, "plusWide", 4294967295L, 1);
        writes(GREATEST, "plusWide", GREATEST - 1, 1);
        writes(LEAST, "plusWide", LEAST + 1, -1);
        writes(-1, "plusWide", LEAST, GREATEST);
        refuses("plusWide", GREATEST, 1);
        refuses("plusWide", GREATEST, GREATEST);
        refuses("plusWide", LEAST, -1);
        refuses("plusWide", LEAST, LEAST);
        Calls.cellsOnly("plusWide", THREE_CELLS, 0, 1, 2);
    }

    private static void p15LessWide() {
        writes(-8, "lessWide", -7, 1);
        writes(GREATEST, "lessWide", -1, LEAST);
        writes(LEAST, "lessWide", LEAST + 1, 1);
        writes(0, "lessWide", LEAST, LEAST);
        refuses("lessWide", LEAST, 1);
        refuses("lessWide", 0, LEAST);
        refuses("lessWide", GREATEST, -1);
        Calls.cellsOnly("lessWide", THREE_CELLS, 0, 1, 2);
    }

    private static void p16TimesWide() {
        writes(-42, "timesWide", -7, 6);
        writes(9223372030926249001L, "timesWide", 3037000499L, 3037000499L);
        writes(LEAST, "timesWide", 4294967296L, -2147483648L);
        writes(LEAST, "timesWide", LEAST, 1);
        writes(0, "timesWide", 0, LEAST);
        refuses("timesWide", 3037000500L, 3037000500L);
        refuses("timesWide", 4294967296L, 2147483648L);
        refuses("timesWide", 4294967296L, 4294967296L);
        refuses("timesWide", LEAST, -1);
        refuses("timesWide", -1, LEAST);
        refuses("timesWide", LEAST, 2);
        Edgecount house = Calls.wides(0, 0, -3);
        Calls.step(house, 1, "timesWide", 2, 2, 2);
        Calls.due(house, 9, "wide", 2);
        Calls.cellsOnly("timesWide", THREE_CELLS, 0, 1, 2);
    }

    private static void p17OverWide() {
        writes(3, "overWide", 7, 2);
        writes(-4, "overWide", 7, -2);
        writes(-4, "overWide", -7, 2);
        writes(3, "overWide", -7, -2);
        writes(-3, "overWide", -6, 2);
        writes(-1, "overWide", 1, LEAST);
        writes(LEAST, "overWide", LEAST, -1);
        writes(-2, "overWide", LEAST, GREATEST);
        refuses("overWide", 7, 0);
        refuses("overWide", 0, 0);
        Calls.cellsOnly("overWide", THREE_CELLS, 0, 1, 2);
    }

    private static void p18RestWide() {
        writes(1, "restWide", 7, 2);
        writes(-1, "restWide", 7, -2);
        writes(1, "restWide", -7, 2);
        writes(-1, "restWide", -7, -2);
        writes(0, "restWide", -6, 2);
        writes(0, "restWide", LEAST, -1);
        writes(LEAST + 1, "restWide", 1, LEAST);
        writes(GREATEST - 1, "restWide", LEAST, GREATEST);
        refuses("restWide", 7, 0);
        Calls.cellsOnly("restWide", THREE_CELLS, 0, 1, 2);
    }

    private static void p19UpWide() {
        writesOfOne(2147483648L, "upWide", 2147483647L);
        writesOfOne(0, "upWide", -1);
        writesOfOne(GREATEST, "upWide", GREATEST - 1);
        writesOfOne(LEAST + 1, "upWide", LEAST);
        refusesOne("upWide", GREATEST);
        Calls.cellsOnly("upWide", TWO_CELLS, 0, 1);
    }

    private static void p20DownWide() {
        writesOfOne(-2147483649L, "downWide", -2147483648L);
        writesOfOne(-1, "downWide", 0);
        writesOfOne(LEAST, "downWide", LEAST + 1);
        writesOfOne(GREATEST - 1, "downWide", GREATEST);
        refusesOne("downWide", LEAST);
        Calls.cellsOnly("downWide", TWO_CELLS, 0, 1);
    }

    private static void p21TurnWide() {
        writesOfOne(2147483648L, "turnWide", -2147483648L);
        writesOfOne(-7, "turnWide", 7);
        writesOfOne(0, "turnWide", 0);
        writesOfOne(LEAST + 1, "turnWide", GREATEST);
        refusesOne("turnWide", LEAST);
        Calls.cellsOnly("turnWide", TWO_CELLS, 0, 1);
    }

    private static void p22SizeWide() {
        writesOfOne(2147483648L, "sizeWide", -2147483648L);
        writesOfOne(7, "sizeWide", 7);
        writesOfOne(0, "sizeWide", 0);
        writesOfOne(GREATEST, "sizeWide", LEAST + 1);
        writesOfOne(LEAST, "sizeWide", LEAST);
        Calls.cellsOnly("sizeWide", TWO_CELLS, 0, 1);
    }

    private static void p23PickWide() {
        picks(3, -7, 3, true);
        picks(-7, -7, 3, false);
        picks(4294967296L, 4294967296L, 1, true);
        picks(1, 4294967296L, 1, false);
        picks(GREATEST, LEAST, GREATEST, true);
        picks(LEAST, GREATEST, LEAST, false);
        Calls.cellsOnly("pickWide", THREE_CELLS, 0, 1, 2, true);
        Calls.cellsOnly("pickWide", THREE_CELLS, 0, 1, 2, false);
    }

    private static void picks(long want, long x, long y, boolean isGreater) {
        Edgecount house = Calls.wides(x, y);
        Calls.step(house, 1, "pickWide", 5, 0, 1, isGreater);
        Calls.due(house, want, "wide", 5);
    }
}
