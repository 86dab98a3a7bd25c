/** Promises 54 to 58: undoing, knocking, and what is told of the whole house. */
public final class HouseTest {
    private static final int LEAST = Integer.MIN_VALUE;
    private static final int GREATEST = Integer.MAX_VALUE;

    private HouseTest() {
    }

    public static void main(String[] args) {
        p54Undo();
        p54UndoOfEach();
        p54NoSteps();
        p55Knock();
        p56House();
        p57IsSound();
        p58Digest();
        Calls.end();
    }

    private static void p54Undo() {
        Edgecount house = new Edgecount();
        Calls.thrown(house, Calls.STATE, "undo");
        for (int value = 1; value <= 9; value++) {
            house.put(0, value);
        }
        Calls.due(house, 8, "house", 0);
        for (int left = 7; left >= 0; left--) {
            Calls.due(house, left, "undo");
            Calls.due(house, left + 1, "narrow", 0);
        }
        Calls.thrown(house, Calls.STATE, "undo");
        Calls.due(house, 1, "narrow", 0);
        house.put(1, 5);
        house.put(1, 6);
        Calls.due(house, 1, "undo");
        house.put(2, 7);
        Calls.due(house, 1, "undo");
        Calls.due(house, 5, "narrow", 1);
        Calls.due(house, 0, "narrow", 2);
        Calls.due(house, 0, "undo");
        Calls.due(house, 0, "narrow", 1);
        Calls.thrown(house, Calls.STATE, "undo");
    }

    private static void p54UndoOfEach() {
        Edgecount house = new Edgecount();
        house.putWide(3, 1, 2);
        house.enter(4);
        house.enter(5);
        house.strike();
        house.book();
        house.horner(0, 7);
        house.put(0, 0);
        house.turn(0, 0);
        Calls.due(house, 4, "ledger", 0);
        Calls.due(house, 7, "undo");
        Calls.due(house, 6, "undo");
        Calls.due(house, 5, "undo");
        Calls.due(house, 1, "ledger", 2);
        Calls.due(house, 4, "undo");
        Calls.due(house, 0, "ledger", 0);
        Calls.due(house, 0, "ledger", 2);
        Calls.due(house, 4, "draft", 0);
        Calls.due(house, 3, "undo");
        Calls.due(house, 5, "draft", 1);
        Calls.due(house, 2, "undo");
        Calls.due(house, 1, "ledger", 1);
        Calls.due(house, 1, "undo");
        Calls.due(house, 4294967298L, "wide", 3);
        Calls.due(house, 0, "undo");
        Calls.due(house, 0, "wide", 3);
    }

    /** What is told, REFUSED or thrown is no STEP, nor is knocking. */
    private static void p54NoSteps() {
        Edgecount house = Calls.narrows(3);
        house.knock();
        house.strike();
        house.over(0, 0, 1);
        house.which();
        house.isSound();
        house.digest();
        Calls.due(house, Calls.INDEX, "put", 6, 0);
        Calls.due(house, 1, "house", 0);
        Calls.due(house, 0, "undo");
        Calls.due(house, 0, "narrow", 0);
        Calls.due(house, 2, "house", 1);
        Calls.due(house, 1, "house", 2);
    }

    private static void p55Knock() {
        Edgecount house = new Edgecount();
        for (int often = 1; often <= 12; often++) {
            Calls.due(house, often, "knock");
        }
        Calls.due(house, 12, "house", 2);
        Calls.due(house, 0, "house", 0);
    }

    private static void p56House() {
        Edgecount house = Calls.narrows(GREATEST, -9);
        house.knock();
        Calls.due(house, -9, "put", 1, 0);
        Calls.due(house, -9, "up", 0, 0);
        Calls.due(house, -9, "rest", 0, 0, 1);
        Calls.due(house, -9, "overWide", 0, 0, 1);
        Calls.due(house, false, "fits", 0, 0, 0);
        Calls.due(house, 3, "house", 0);
        Calls.due(house, 3, "house", 1);
        Calls.due(house, 1, "house", 2);
        house.undo();
        Calls.due(house, 2, "house", 0);
        Calls.due(house, 3, "house", 1);
        for (int what : new int[] {-1, 3, LEAST, GREATEST}) {
            Calls.thrown(house, Calls.ARGUMENT, "house", what);
        }
    }

    private static void p57IsSound() {
        Calls.due(new Edgecount(), true, "isSound");
        Edgecount house = Calls.narrows(LEAST, LEAST + 1, -1, 1, GREATEST - 1, GREATEST);
        long[] wides = {Long.MIN_VALUE, Long.MIN_VALUE + 1, -1, 0, 1L << 62, Long.MAX_VALUE};
        for (int cell = 0; cell < 6; cell++) {
            house.putWide(cell, (int) (wides[cell] >> 32), (int) wides[cell]);
        }
        String before = Calls.sight(house);
        Calls.due(house, true, "isSound");
        Calls.same("isSound then what is seen", Calls.sight(house), before);
    }

    /** The numbers of the new house, of which all but house() and fits() are 0, counted by hand. */
    private static void p58Digest() {
        Calls.due(new Edgecount(), digestOfNew(), "digest");
        Edgecount house = Calls.narrows(GREATEST, LEAST, -1, 0, 46341, -7);
        house.putWide(0, LEAST, 0);
        house.putWide(1, 0, 5);
        house.putWide(2, -1, -1);
        house.enter(5);
        house.enter(LEAST);
        house.knock();
        house.up(0, 0);
        String before = Calls.sight(house);
        Calls.due(house, modelDigest(), "digest");
        Calls.same("digest then what is seen", Calls.sight(house), before);
    }

    private static long digestOfNew() {
        long d = 4912;
        for (int i = 0; i < 6; i++) {
            d = d * 31;
        }
        d = d * 31 - 1;
        for (int cell = 0; cell < 6; cell++) {
            long[] row = {0, 0, 0, 0, 0, 0, 3, 0, 0, 0};
            for (long v : row) {
                d = d * 31 + v;
            }
        }
        for (int cell = 0; cell < 6; cell++) {
            long[] row = {0, 0, 0, 0, 1};
            for (long v : row) {
                d = d * 31 + v;
            }
        }
        for (int cell = 0; cell < 6; cell++) {
            long[] row = {1, 1, 1, 1, 1, 1, 0, 0, 1, 1};
            for (long v : row) {
                d = d * 31 + v;
            }
        }
        return d * 31 + 1;
    }

    private static String modelDigest() {
        Model model = new Model();
        int[] narrows = {GREATEST, LEAST, -1, 0, 46341, -7};
        for (int cell = 0; cell < 6; cell++) {
            model.answer("put", cell, narrows[cell]);
        }
        model.answer("putWide", 0, LEAST, 0);
        model.answer("putWide", 1, 0, 5);
        model.answer("putWide", 2, -1, -1);
        model.answer("enter", 5);
        model.answer("enter", LEAST);
        model.answer("knock");
        model.answer("up", 0, 0);
        return model.answer("digest");
    }
}
