/** Promises 1 to 12: a new house, and its narrow cells. */
public final class NarrowTest {
    private static final int LEAST = Integer.MIN_VALUE;
    private static final int GREATEST = Integer.MAX_VALUE;
    private static final int[] ONE_CELL = {0};
    private static final int[] TWO_CELLS = {0, 1};
    private static final int[] THREE_CELLS = {0, 1, 2};

    private NarrowTest() {
    }

    public static void main(String[] args) {
        p01NewHouse();
        p02Put();
        p03Plus();
        p04Less();
        p05Times();
        p06Over();
        p07Rest();
        p08Up();
        p09Down();
        p10Turn();
        p11Size();
        p12Pick();
        Calls.end();
    }

    /** The act, which is a STEP, writes this into cell 5 of a house with these cells. */
    private static void writes(int want, String act, int x, int y) {
        Edgecount house = Calls.narrows(x, y);
        Calls.step(house, 1, act, 5, 0, 1);
        Calls.due(house, want, "narrow", 5);
        Calls.due(house, x, "narrow", 0);
        Calls.due(house, y, "narrow", 1);
        Calls.due(house, 0, "wide", 5);
        Calls.due(house, 2, "undo");
        Calls.due(house, 0, "narrow", 5);
    }

    private static void writesOfOne(int want, String act, int x) {
        Edgecount house = Calls.narrows(x);
        Calls.step(house, 1, act, 5, 0);
        Calls.due(house, want, "narrow", 5);
        Calls.due(house, x, "narrow", 0);
        Calls.due(house, 0, "wide", 5);
        Calls.due(house, 1, "undo");
        Calls.due(house, 0, "narrow", 5);
    }

    private static void refuses(String act, int x, int y) {
        Calls.refused(Calls.narrows(x, y), act, 5, 0, 1);
    }

    private static void refusesOne(String act, int x) {
        Calls.refused(Calls.narrows(x), act, 5, 0);
    }

    private static void p01NewHouse() {
        Edgecount house = new Edgecount();
        for (int cell = 0; cell <= 5; cell++) {
            Calls.due(house, 0, "narrow", cell);
            Calls.due(house, 0, "wide", cell);
        }
        for (int what = 0; what <= 2; what++) {
            Calls.due(house, 0, "ledger", what);
            Calls.due(house, 0, "house", what);
        }
        Calls.due(house, -1, "which");
        Calls.due(house, true, "isSound");
        Edgecount other = new Edgecount();
        house.put(0, 9);
        house.enter(4);
        Calls.due(other, 0, "narrow", 0);
        Calls.due(other, 0, "ledger", 1);
    }

    private static void p02Put() {
        Edgecount house = new Edgecount();
        Calls.step(house, 0, "put", 5, LEAST);
        Calls.step(house, LEAST, "put", 5, GREATEST);
        Calls.step(house, GREATEST, "put", 5, -9);
        Calls.step(house, -9, "put", 5, -9);
        Calls.due(house, -9, "narrow", 5);
        Calls.due(house, 0, "narrow", 4);
        Calls.due(house, 0, "wide", 5);
        Calls.due(house, 0, "house", 1);
        Calls.cellsOnly("put", ONE_CELL, 0, 7);
    }

    private static void p03Plus() {
        writes(-6, "plus", -7, 1);
        writes(GREATEST, "plus", GREATEST - 1, 1);
        writes(LEAST, "plus", LEAST + 1, -1);
        writes(-1, "plus", LEAST, GREATEST);
        refuses("plus", GREATEST, 1);
        refuses("plus", LEAST, -1);
        refuses("plus", LEAST, LEAST);
        Edgecount house = Calls.narrows(0, 0, 0, 21);
        Calls.step(house, 1, "plus", 3, 3, 3);
        Calls.due(house, 42, "narrow", 3);
        Calls.cellsOnly("plus", THREE_CELLS, 0, 1, 2);
    }

    private static void p04Less() {
        writes(-8, "less", -7, 1);
        writes(GREATEST, "less", -1, LEAST);
        writes(LEAST, "less", LEAST + 1, 1);
        writes(0, "less", LEAST, LEAST);
        refuses("less", LEAST, 1);
        refuses("less", 0, LEAST);
        refuses("less", GREATEST, -1);
        Calls.cellsOnly("less", THREE_CELLS, 0, 1, 2);
    }

    private static void p05Times() {
        writes(-42, "times", -7, 6);
        writes(2147395600, "times", 46340, 46340);
        writes(LEAST, "times", 65536, -32768);
        writes(LEAST, "times", LEAST, 1);
        writes(0, "times", LEAST, 0);
        refuses("times", 46341, 46341);
        refuses("times", 65536, 32768);
        refuses("times", 65536, 65536);
        refuses("times", LEAST, -1);
        Calls.cellsOnly("times", THREE_CELLS, 0, 1, 2);
    }

    private static void p06Over() {
        writes(3, "over", 7, 2);
        writes(-4, "over", 7, -2);
        writes(-4, "over", -7, 2);
        writes(3, "over", -7, -2);
        writes(-3, "over", 6, -2);
        writes(-1, "over", 1, LEAST);
        writes(LEAST, "over", LEAST, 1);
        writes(LEAST, "over", LEAST, -1);
        writes(-GREATEST, "over", GREATEST, -1);
        writes(0, "over", 0, -5);
        refuses("over", 7, 0);
        refuses("over", 0, 0);
        Calls.cellsOnly("over", THREE_CELLS, 0, 1, 2);
    }

    private static void p07Rest() {
        writes(1, "rest", 7, 2);
        writes(-1, "rest", 7, -2);
        writes(1, "rest", -7, 2);
        writes(-1, "rest", -7, -2);
        writes(0, "rest", 6, -2);
        writes(0, "rest", LEAST, -1);
        writes(LEAST + 1, "rest", 1, LEAST);
        writes(GREATEST - 1, "rest", LEAST, GREATEST);
        refuses("rest", 7, 0);
        Calls.cellsOnly("rest", THREE_CELLS, 0, 1, 2);
    }

    private static void p08Up() {
        writesOfOne(8, "up", 7);
        writesOfOne(0, "up", -1);
        writesOfOne(LEAST + 1, "up", LEAST);
        writesOfOne(GREATEST, "up", GREATEST - 1);
        refusesOne("up", GREATEST);
        Calls.cellsOnly("up", TWO_CELLS, 0, 1);
    }

    private static void p09Down() {
        writesOfOne(6, "down", 7);
        writesOfOne(-1, "down", 0);
        writesOfOne(LEAST, "down", LEAST + 1);
        writesOfOne(GREATEST - 1, "down", GREATEST);
        refusesOne("down", LEAST);
        Calls.cellsOnly("down", TWO_CELLS, 0, 1);
    }

    private static void p10Turn() {
        writesOfOne(-7, "turn", 7);
        writesOfOne(7, "turn", -7);
        writesOfOne(0, "turn", 0);
        writesOfOne(LEAST + 1, "turn", GREATEST);
        writesOfOne(GREATEST, "turn", LEAST + 1);
        refusesOne("turn", LEAST);
        Calls.cellsOnly("turn", TWO_CELLS, 0, 1);
    }

    private static void p11Size() {
        writesOfOne(7, "size", 7);
        writesOfOne(7, "size", -7);
        writesOfOne(0, "size", 0);
        writesOfOne(GREATEST, "size", LEAST + 1);
        writesOfOne(LEAST, "size", LEAST);
        Calls.cellsOnly("size", TWO_CELLS, 0, 1);
    }

    private static void p12Pick() {
        picks(3, -7, 3, true);
        picks(-7, -7, 3, false);
        picks(3, 3, -7, true);
        picks(-7, 3, -7, false);
        picks(GREATEST, LEAST, GREATEST, true);
        picks(LEAST, LEAST, GREATEST, false);
        picks(4, 4, 4, true);
        Calls.cellsOnly("pick", THREE_CELLS, 0, 1, 2, true);
        Calls.cellsOnly("pick", THREE_CELLS, 0, 1, 2, false);
    }

    private static void picks(int want, int x, int y, boolean isGreater) {
        Edgecount house = Calls.narrows(x, y);
        Calls.step(house, 1, "pick", 5, 0, 1, isGreater);
        Calls.due(house, want, "narrow", 5);
    }
}
