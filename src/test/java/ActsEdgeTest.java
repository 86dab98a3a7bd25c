import java.util.Arrays;

/** What the document says of all acts on cells, at its edges: a method for each sentence, quoted above it. */
public final class ActsEdgeTest {
    private static final int LEAST = Integer.MIN_VALUE;
    private static final int GREATEST = Integer.MAX_VALUE;
    private static final int[] WRONG_CELLS = {-1, 6, LEAST, GREATEST};
    private static final String[] OF_TWO = {
        "plus", "less", "times", "over", "rest", "plusWide", "lessWide", "timesWide", "overWide", "restWide",
        "overMixed", "restMixed", "timesMixed", "full", "high", "plain"
    };
    private static final String[] PICKS = {"pick", "pickWide"};
    private static final String[] OF_ONE = {
        "up", "down", "turn", "size", "upWide", "downWide", "turnWide", "sizeWide", "fit", "widen"
    };

    private ActsEdgeTest() {
    }

    public static void main(String[] args) {
        eachActTellsOne();
        putsTellWhatLayThere();
        minusNineThatLayIsNotRefused();
        minusNineThatCameIsNotRefused();
        refusedIsCountedEver();
        refusedChangesNothingElse();
        exceptionGoesAheadOfRefused();
        floorIsNotAbove();
        cellsAreSixAndSix();
        wideCellsHoldTheWholeSpan();
        goesRoundInNarrow();
        goesRoundInWide();
        quotientAndRemainder();
        remainderBelongsToTheQuotientInFull();
        sameCellForAll();
        eachChoiceOfCells();
        spanIsThatOfTheCellTo();
        wrongCellAtEachPlace();
        Calls.end();
    }

    /** A house in whose narrow cells lie 7, 2, -3 and in whose wide ones 9, 4, -5. */
    private static Edgecount filled() {
        Edgecount house = Calls.narrows(7, 2, -3);
        house.putWide(0, 0, 9);
        house.putWide(1, 0, 4);
        house.putWide(2, -1, -5);
        return house;
    }

    /** An act on cells, which neither throws nor is REFUSED, tells 1. */
    private static void eachActTellsOne() {
        for (String act : OF_TWO) {
            Calls.step(filled(), 1, act, 5, 0, 1);
        }
        for (String act : PICKS) {
            Calls.step(filled(), 1, act, 5, 0, 1, true);
            Calls.step(filled(), 1, act, 5, 0, 1, false);
        }
        for (String act : OF_ONE) {
            Calls.step(filled(), 1, act, 5, 0);
        }
    }

    /** (put and putWide: what lay there before) */
    private static void putsTellWhatLayThere() {
        Edgecount house = new Edgecount();
        Calls.due(house, 0, "put", 0, LEAST);
        Calls.due(house, LEAST, "put", 0, GREATEST);
        Calls.due(house, GREATEST, "put", 0, 1);
        Calls.due(house, 0, "putWide", 0, LEAST, 0);
        Calls.due(house, Long.MIN_VALUE, "putWide", 0, GREATEST, -1);
        Calls.due(house, Long.MAX_VALUE, "putWide", 0, 0, 1);
        Calls.due(house, 1, "putWide", 0, 0, 1);
    }

    /** REFUSED is -9, where a method names it (a number -9 that lay .. is none) */
    private static void minusNineThatLayIsNotRefused() {
        Edgecount house = Calls.narrows(-9, -9);
        house.putWide(0, -1, -9);
        house.putWide(1, 0, 1);
        house.enter(-9);
        Calls.due(house, -9, "narrow", 0);
        Calls.due(house, -9, "wide", 0);
        Calls.due(house, -9, "draft", 0);
        Calls.due(house, -9, "mean", 0, 1);
        Calls.due(house, -9, "meanWide", 0, 0);
        Calls.due(house, -9, "half", 0, 1, false);
        Calls.due(house, -9, "weeks", 0, -57);
        Calls.due(house, -9, "daysOn", 0, -12960);
        Calls.due(house, -9, "page", -17, 2, 1, 0);
        Calls.step(house, -9, "put", 0, 0);
        Calls.step(house, -9, "putWide", 0, 0, 0);
        Calls.step(house, 1, "book");
        Calls.due(house, -9, "ledger", 0);
        Calls.due(house, 0, "house", 1);
        house.putWide(2, GREATEST, -1);
        house.putWide(3, -1, -18);
        Calls.due(house, -9, "half", 2, 3, true);
        Calls.due(house, 0, "house", 1);
    }

    /** (a number -9 that .. came is none) */
    private static void minusNineThatCameIsNotRefused() {
        Edgecount house = Calls.narrows(-18, 9, 2);
        house.putWide(0, -1, -18);
        house.putWide(1, 0, 2);
        Calls.step(house, 1, "plus", 3, 0, 1);
        Calls.due(house, -9, "narrow", 3);
        Calls.step(house, 1, "over", 4, 0, 2);
        Calls.due(house, -9, "narrow", 4);
        Calls.step(house, 1, "turn", 5, 1);
        Calls.due(house, -9, "narrow", 5);
        Calls.step(house, 1, "overWide", 3, 0, 1);
        Calls.due(house, -9, "wide", 3);
        Calls.step(house, 1, "overMixed", 4, 0, 2);
        Calls.due(house, -9, "wide", 4);
        Calls.step(house, 1, "fit", 2, 3);
        Calls.due(house, -9, "narrow", 2);
        Calls.due(house, 0, "house", 1);
    }

    /** what is told so is counted, ever (undoing takes nothing of that back) */
    private static void refusedIsCountedEver() {
        Edgecount house = Calls.narrows(GREATEST);
        for (int often = 1; often <= 12; often++) {
            Calls.due(house, -9, "up", 0, 0);
            Calls.due(house, often, "house", 1);
        }
        Calls.due(house, 0, "undo");
        Calls.due(house, 12, "house", 1);
        Calls.due(house, 0, "narrow", 0);
        Calls.due(house, -9, "strike");
        Calls.due(house, 13, "house", 1);
        Calls.due(house, -9, "rest", 0, 0, 0);
        Calls.due(house, -9, "restMixed", 0, 0, 0);
        Calls.due(house, -9, "overMixed", 0, 0, 0);
        Calls.due(house, -9, "overWide", 0, 0, 0);
        Calls.due(house, 17, "house", 1);
    }

    /** A house in which each method that can be REFUSED is, with the cells 0 and 1. */
    private static Edgecount refusing() {
        Edgecount house = new Edgecount();
        house.putWide(0, GREATEST, -1);
        house.putWide(1, GREATEST, -1);
        house.put(0, GREATEST);
        house.put(1, GREATEST);
        house.enter(GREATEST);
        house.enter(GREATEST);
        house.put(4, 11);
        house.put(4, 12);
        house.put(5, 13);
        house.knock();
        return house;
    }

    /** and nothing else changes */
    private static void refusedChangesNothingElse() {
        Object[][] calls = {
            {"plus", 5, 0, 1}, {"times", 5, 0, 1}, {"over", 5, 0, 2}, {"rest", 5, 0, 2}, {"up", 5, 0},
            {"plusWide", 5, 0, 1}, {"timesWide", 5, 0, 1}, {"overWide", 5, 0, 2}, {"restWide", 5, 0, 2},
            {"upWide", 5, 0}, {"overMixed", 5, 0, 2}, {"restMixed", 5, 0, 2}, {"timesMixed", 5, 0, 1}, {"fit", 5, 0},
            {"book"}, {"horner", 5, 1}
        };
        for (Object[] call : calls) {
            Object[] args = Arrays.copyOfRange(call, 1, call.length);
            Edgecount house = refusing();
            Calls.refused(house, (String) call[0], args);
            // The STEPS, too, are those of before: the last ones, one by one.
            Calls.due(house, 7, "undo");
            Calls.due(house, 0, "narrow", 5);
            Calls.due(house, 12, "narrow", 4);
            Calls.due(house, 6, "undo");
            Calls.due(house, 11, "narrow", 4);
            Calls.due(house, 1, "house", 1);
            Calls.due(house, 1, "house", 2);
        }
        refusedAtTheLowerEnd();
    }

    private static void refusedAtTheLowerEnd() {
        Edgecount house = Calls.narrows(LEAST, 1);
        house.putWide(0, LEAST, 0);
        house.putWide(1, 0, 1);
        Calls.refused(house, "less", 5, 0, 1);
        Calls.refused(house, "down", 5, 0);
        Calls.refused(house, "turn", 5, 0);
        Calls.refused(house, "lessWide", 5, 0, 1);
        Calls.refused(house, "downWide", 5, 0);
        Calls.refused(house, "turnWide", 5, 0);
        Calls.refused(house, "fit", 5, 0);
        Calls.refused(house, "strike");
        Calls.due(house, 8, "house", 1);
    }

    /** (an exception goes ahead of it; then nothing is counted) */
    private static void exceptionGoesAheadOfRefused() {
        for (int wrong : WRONG_CELLS) {
            for (String act : new String[] {
                "plus", "times", "plusWide", "timesWide", "timesMixed"
            }) {
                Calls.thrown(refusing(), Calls.INDEX, act, wrong, 0, 1);
            }
            for (String act : new String[] {
                "over", "rest", "overWide", "restWide", "overMixed", "restMixed"
            }) {
                Calls.thrown(refusing(), Calls.INDEX, act, wrong, 0, 2);
                Calls.thrown(refusing(), Calls.INDEX, act, 0, wrong, 2);
            }
            for (String act : new String[] {"up", "upWide", "fit"}) {
                Calls.thrown(refusing(), Calls.INDEX, act, wrong, 0);
            }
            for (String act : new String[] {"less", "lessWide"}) {
                Calls.thrown(refusing(), Calls.INDEX, act, wrong, 2, 0);
            }
            for (String act : new String[] {"down", "turn", "downWide", "turnWide"}) {
                Edgecount house = Calls.narrows(LEAST);
                house.putWide(0, LEAST, 0);
                Calls.thrown(house, Calls.INDEX, act, wrong, 0);
            }
            Calls.thrown(refusing(), Calls.INDEX, "horner", wrong, 1);
        }
        Calls.thrown(refusing(), Calls.ARGUMENT, "horner", 0, 37);
        Calls.thrown(refusing(), Calls.ARGUMENT, "horner", 0, -37);
    }

    /** FLOOR of a number: the greatest whole number that is not above it. */
    private static void floorIsNotAbove() {
        Edgecount house = Calls.narrows(-1, 2, 1, -2, 0, -3);
        int[][] floors = {{0, 1, -1}, {2, 3, -1}, {2, 1, 0}, {0, 3, 0}, {3, 1, -1}, {4, 1, 0}, {5, 1, -2}, {5, 3, 1}};
        for (int[] row : floors) {
            Calls.step(house, 1, "over", 4, row[0], row[1]);
            Calls.due(house, row[2], "narrow", 4);
            house.put(4, 0);
        }
        Calls.due(house, -1, "mean", 0, 4);
        Calls.due(house, 0, "mean", 2, 4);
        Calls.due(house, -2, "mean", 5, 4);
    }

    /** There are 6 NARROW cells, 0 to 5, and 6 WIDE cells, 0 to 5; in each lies a number of its SPAN (0 at first). */
    private static void cellsAreSixAndSix() {
        Edgecount house = new Edgecount();
        for (int cell = 0; cell <= 5; cell++) {
            Calls.due(house, 0, "put", cell, 10 + cell);
            Calls.due(house, 0, "putWide", cell, 0, 20 + cell);
        }
        for (int cell = 0; cell <= 5; cell++) {
            Calls.due(house, 10 + cell, "narrow", cell);
            Calls.due(house, 20 + cell, "wide", cell);
        }
        for (int wrong : WRONG_CELLS) {
            Calls.thrown(filled(), Calls.INDEX, "narrow", wrong);
            Calls.thrown(filled(), Calls.INDEX, "wide", wrong);
            Calls.thrown(filled(), Calls.INDEX, "put", wrong, 1);
            Calls.thrown(filled(), Calls.INDEX, "putWide", wrong, 1, 1);
        }
    }

    /** In the cell lies high * 2^32 + low from now on, 2^32 more if low is below 0. */
    private static void wideCellsHoldTheWholeSpan() {
        Object[][] rows = {
            {0, 0, 0L}, {0, GREATEST, 2147483647L}, {0, LEAST, 2147483648L}, {0, -1, 4294967295L}, {1, 0, 4294967296L},
            {-1, 0, -4294967296L}, {-1, GREATEST, -2147483649L}, {-1, LEAST, -2147483648L}, {-1, -1, -1L},
            {GREATEST, 0, 9223372032559808512L}, {GREATEST, GREATEST, 9223372034707292159L},
            {GREATEST, LEAST, 9223372034707292160L}, {GREATEST, -1, Long.MAX_VALUE},
            {LEAST, 0, Long.MIN_VALUE}, {LEAST, -1, -9223372032559808513L}
        };
        for (Object[] row : rows) {
            Edgecount house = new Edgecount();
            Calls.step(house, 0, "putWide", 5, row[0], row[1]);
            Calls.due(house, row[2], "wide", 5);
            Calls.due(house, row[2], "putWide", 5, 0, 0);
        }
    }

    /** n GOES ROUND in a SPAN: .. the one number of the SPAN which differs from n by a multiple of 2^32 (NARROW) */
    private static void goesRoundInNarrow() {
        Edgecount house = Calls.narrows(LEAST, -1);
        Calls.step(house, 1, "over", 2, 0, 1);
        Calls.due(house, LEAST, "narrow", 2);
        Calls.step(house, 1, "size", 3, 0);
        Calls.due(house, LEAST, "narrow", 3);
        Calls.due(house, true, "fits", 3, 0, 1);
    }

    /** or of 2^64 (WIDE) */
    private static void goesRoundInWide() {
        Edgecount house = Calls.wides(Long.MIN_VALUE, -1, Long.MAX_VALUE, 3);
        house.put(1, -1);
        Calls.step(house, 1, "overWide", 5, 0, 1);
        Calls.due(house, Long.MIN_VALUE, "wide", 5);
        Calls.step(house, 1, "overMixed", 5, 0, 1);
        Calls.due(house, Long.MIN_VALUE, "wide", 5);
        Calls.step(house, 1, "sizeWide", 5, 0);
        Calls.due(house, Long.MIN_VALUE, "wide", 5);
        Calls.due(house, true, "fitsWide", 3, 0, 1);
        Calls.step(house, 1, "plain", 5, 0, 1);
        Calls.due(house, Long.MIN_VALUE, "wide", 5);
        Calls.step(house, 1, "plain", 5, 2, 3);
        Calls.due(house, 9223372036854775805L, "wide", 5);
    }

    /** (7 by -2: -4 and -1; -7 by 2: -4 and 1.) */
    private static void quotientAndRemainder() {
        int[][] rows = {
            {7, 2, 3, 1}, {7, -2, -4, -1}, {-7, 2, -4, 1}, {-7, -2, 3, -1}, {6, -2, -3, 0}, {-6, 2, -3, 0},
            {1, -2, -1, -1}, {-1, 2, -1, 1}, {0, -2, 0, 0}, {1, 2, 0, 1}, {-1, -2, 0, -1}
        };
        for (int[] row : rows) {
            Edgecount house = Calls.narrows(row[0], row[1]);
            house.widen(0, 0);
            house.widen(1, 1);
            divides(house, "", "narrow", "narrow", row);
            divides(house, "Wide", "wide", "wide", row);
            divides(house, "Mixed", "wide", "narrow", row);
        }
    }

    private static void divides(Edgecount house, String width, String quotient, String remainder, int[] row) {
        Calls.due(house, 1, "over" + width, 5, 0, 1);
        Calls.due(house, row[2], quotient, 5);
        Calls.due(house, 1, "rest" + width, 5, 0, 1);
        Calls.due(house, row[3], remainder, 5);
    }

    /** REMAINDER is x - QUOTIENT * y: that of LEAST by -1 is 0, as the QUOTIENT itself does not go round. */
    private static void remainderBelongsToTheQuotientInFull() {
        Edgecount house = Calls.narrows(LEAST, -1, 3, 3, 3, 3);
        house.putWide(0, LEAST, 0);
        house.putWide(1, -1, -1);
        house.putWide(5, 0, 3);
        Calls.step(house, 1, "rest", 5, 0, 1);
        Calls.due(house, 0, "narrow", 5);
        Calls.step(house, 1, "restMixed", 4, 0, 1);
        Calls.due(house, 0, "narrow", 4);
        Calls.step(house, 1, "restWide", 5, 0, 1);
        Calls.due(house, 0, "wide", 5);
    }

    /** .. the cells a and b, as they are ahead of it (they may all be the same cell) */
    private static void sameCellForAll() {
        Object[][] narrows = {
            {"plus", -10}, {"less", 0}, {"times", 25}, {"over", 1}, {"rest", 0}, {"up", -4}, {"down", -6},
            {"turn", 5}, {"size", 5}
        };
        for (Object[] row : narrows) {
            boolean isOfOne = Arrays.asList(OF_ONE).contains(row[0]);
            Edgecount house = Calls.narrows(0, 0, 0, -5);
            Calls.step(house, 1, (String) row[0], isOfOne ? new Object[] {3, 3} : new Object[] {3, 3, 3});
            Calls.due(house, row[1], "narrow", 3);
            Edgecount wide = Calls.wides(0, 0, 0, -5);
            Calls.step(wide, 1, row[0] + "Wide", isOfOne ? new Object[] {3, 3} : new Object[] {3, 3, 3});
            Calls.due(wide, row[1], "wide", 3);
        }
        for (boolean isGreater : new boolean[] {false, true}) {
            Edgecount house = filled();
            Calls.step(house, 1, "pick", 2, 2, 2, isGreater);
            Calls.due(house, -3, "narrow", 2);
            Calls.step(house, 1, "pickWide", 2, 2, 2, isGreater);
            Calls.due(house, -5, "wide", 2);
        }
        Edgecount house = Calls.wides(0, 0, 0, 4294967296L);
        Calls.step(house, 1, "plain", 3, 3, 3);
        Calls.due(house, 0, "wide", 3);
        house.undo();
        Calls.step(house, 1, "high", 3, 3, 3);
        Calls.due(house, 1, "wide", 3);
    }

    /** The same once more: each choice of to, a and b out of three cells, each act, all cells afterwards. */
    private static void eachChoiceOfCells() {
        for (int choice = 0; choice < 27; choice++) {
            int to = choice / 9;
            int a = choice / 3 % 3;
            int b = choice % 3;
            for (String act : OF_TWO) {
                actsAsModel(act, to, a, b);
            }
            for (String act : PICKS) {
                actsAsModel(act, to, a, b, true);
                actsAsModel(act, to, a, b, false);
            }
        }
        for (int choice = 0; choice < 9; choice++) {
            for (String act : OF_ONE) {
                actsAsModel(act, choice / 3, choice % 3);
            }
        }
    }

    private static void actsAsModel(String act, Object... args) {
        Edgecount house = filled();
        Model model = new Model();
        int[] narrows = {7, 2, -3};
        int[] wides = {9, 4, -5};
        for (int cell = 0; cell < 3; cell++) {
            model.answer("put", cell, narrows[cell]);
            model.answer("putWide", cell, wides[cell] >> 31, wides[cell]);
        }
        String call = act + Arrays.toString(args);
        Calls.same(call, Calls.answer(house, act, args), model.answer(act, args));
        for (int cell = 0; cell < 6; cell++) {
            Calls.same(call + " narrow " + cell, house.narrow(cell), model.answer("narrow", cell));
            Calls.same(call + " wide " + cell, house.wide(cell), model.answer("wide", cell));
        }
    }

    /** Where it says that something must be in the SPAN, that is the SPAN of the cell to */
    private static void spanIsThatOfTheCellTo() {
        Edgecount house = Calls.wides(2147483647L, 1, -2147483648L, 4294967296L);
        house.put(0, 1);
        house.put(1, -1);
        Calls.step(house, 1, "plusWide", 5, 0, 1);
        Calls.due(house, 2147483648L, "wide", 5);
        Calls.step(house, 1, "lessWide", 5, 2, 1);
        Calls.due(house, -2147483649L, "wide", 5);
        Calls.step(house, 1, "timesWide", 5, 2, 2);
        Calls.due(house, 4611686018427387904L, "wide", 5);
        Calls.step(house, 1, "upWide", 5, 0);
        Calls.due(house, 2147483648L, "wide", 5);
        Calls.step(house, 1, "downWide", 5, 2);
        Calls.due(house, -2147483649L, "wide", 5);
        Calls.step(house, 1, "turnWide", 5, 2);
        Calls.due(house, 2147483648L, "wide", 5);
        Calls.step(house, 1, "timesMixed", 5, 3, 0);
        Calls.due(house, 4294967296L, "wide", 5);
        Calls.step(house, 1, "overMixed", 5, 2, 1);
        Calls.due(house, 2147483648L, "wide", 5);
        Calls.refused(house, "fit", 5, 3);
        Calls.refused(house, "fit", 5, 5);
    }

    /** Throws IndexOutOfBoundsException if a cell is not 0 to 5: to, a and b, each of them, each act. */
    private static void wrongCellAtEachPlace() {
        for (int wrong : WRONG_CELLS) {
            for (int place = 0; place < 3; place++) {
                for (String act : OF_TWO) {
                    Calls.thrown(filled(), Calls.INDEX, act, wrongAt(place, wrong, 0, 1, 2));
                }
                for (String act : PICKS) {
                    Calls.thrown(filled(), Calls.INDEX, act, wrongAt(place, wrong, 0, 1, 2, true));
                    Calls.thrown(filled(), Calls.INDEX, act, wrongAt(place, wrong, 0, 1, 2, false));
                }
            }
            for (String act : OF_ONE) {
                Calls.thrown(filled(), Calls.INDEX, act, wrong, 1);
                Calls.thrown(filled(), Calls.INDEX, act, 1, wrong);
            }
        }
    }

    private static Object[] wrongAt(int place, int wrong, Object... args) {
        args[place] = wrong;
        return args;
    }
}
