import java.util.ArrayList;
import java.util.Arrays;
import java.util.List;

/** STEPS, undoing, knocking and house() at their edges: a method for each sentence, quoted above it. */
public final class UndoEdgeTest {
    private static final int LEAST = Integer.MIN_VALUE;
    private static final int GREATEST = Integer.MAX_VALUE;
    private static final int MOST = 8;
    private static final Object[][] STEPS = {
        {"put", 0, 5}, {"plus", 1, 0, 0}, {"less", 2, 1, 0}, {"times", 3, 1, 1}, {"over", 4, 3, 0}, {"rest", 5, 3, 1},
        {"up", 0, 0}, {"down", 1, 1}, {"turn", 2, 2}, {"size", 2, 2}, {"pick", 3, 0, 1, true}, {"pick", 3, 0, 1, false},
        {"putWide", 0, 1, -1}, {"plusWide", 1, 0, 0}, {"lessWide", 2, 1, 0}, {"timesWide", 3, 4, 4},
        {"overWide", 4, 1, 0}, {"restWide", 5, 1, 0}, {"upWide", 0, 0}, {"downWide", 1, 1}, {"turnWide", 2, 2},
        {"sizeWide", 2, 2}, {"pickWide", 3, 0, 1, true}, {"pickWide", 3, 0, 1, false}, {"overMixed", 4, 0, 0},
        {"restMixed", 5, 0, 0}, {"timesMixed", 1, 4, 0}, {"fit", 4, 4}, {"widen", 5, 0}, {"full", 0, 0, 1},
        {"high", 3, 0, 1}, {"plain", 4, 0, 1}, {"enter", 3}, {"enter", -4}, {"horner", 0, 7}, {"book"}, {"enter", 9},
        {"strike"}
    };
    private static final Object[][] READINGS = {
        {"narrow", 0}, {"wide", 0}, {"fits", 0, 0, 1}, {"fitsWide", 2, 0, 1}, {"product", 0, 1}, {"half", 0, 1, true},
        {"half", 0, 1, false}, {"mean", 0, 1}, {"meanWide", 0, 1}, {"which"}, {"ledger", 0}, {"draft", 0},
        {"weekday", 3, -4}, {"weeks", 3, -4}, {"clock", 3, -4}, {"daysOn", 3, -4}, {"page", -4, 3, 2, 1},
        {"digits", -4, -2}, {"digit", -4, -2, 1}, {"house", 0}, {"isSound"}, {"digest"}
    };

    private UndoEdgeTest() {
    }

    public static void main(String[] args) {
        eachOfThemIsAStep();
        readingIsNoStep();
        refusedIsNoStep();
        thrownIsNoStep();
        stepThatChangedNothing();
        eightAreKept();
        ninthForgetsTheOldest();
        ninthOfEachKind();
        noStepCanBeUndone();
        undoneIsAsBefore();
        lastStepThatWasNotUndone();
        undoneThenNewSteps();
        eightUndoneAndEightMore();
        refusalsAreNotTakenBack();
        knocksAreNotTakenBack();
        knocksAreCounted();
        houseTakesZeroToTwo();
        throwingChangesNothing();
        housesAreApart();
        Calls.end();
    }

    private static Object[] rest(Object[] call) {
        return Arrays.copyOfRange(call, 1, call.length);
    }

    private static String make(Edgecount house, Object[] call) {
        return Calls.answer(house, (String) call[0], rest(call));
    }

    /** All that undoing brings back, as it is seen. */
    private static String lying(Edgecount house) {
        StringBuilder seen = new StringBuilder();
        for (int cell = 0; cell < 6; cell++) {
            seen.append(house.narrow(cell)).append(' ').append(house.wide(cell)).append(' ');
        }
        for (int what = 0; what <= 2; what++) {
            seen.append(house.ledger(what)).append(' ');
        }
        for (int k = 0; k < house.ledger(1); k++) {
            seen.append(house.draft(k)).append(' ');
        }
        return seen.append(house.which()).toString();
    }

    /** Each act on cells (put and putWide, too), horner, enter, strike and book is a STEP */
    private static void eachOfThemIsAStep() {
        for (int i = 0; i < STEPS.length; i++) {
            Edgecount house = behind(i);
            String call = Arrays.toString(STEPS[i]);
            int before = house.house(0);
            String seen = lying(house);
            String told = make(house, STEPS[i]);
            Calls.same(call + " is REFUSED", told.equals("-9") || told.startsWith("throws."), false);
            Calls.same(call + " is a STEP", house.house(0), Math.min(MOST, before + 1));
            Calls.same(call + " undone", house.undo(), Math.min(MOST, before + 1) - 1);
            Calls.same(call + " undone, then what lies", lying(house), seen);
            Calls.due(house, 0, "house", 1);
        }
    }

    /** A house behind the first so many of the STEPS. */
    private static Edgecount behind(int count) {
        Edgecount house = new Edgecount();
        for (int i = 0; i < count; i++) {
            make(house, STEPS[i]);
        }
        return house;
    }

    /** .. and nothing else is one: what only tells, knocking, undoing. */
    private static void readingIsNoStep() {
        for (Object[] call : READINGS) {
            Edgecount read = Calls.drafted(4, 5);
            read.put(0, 3);
            String before = Calls.sight(read);
            Calls.same(Arrays.toString(call) + " throws", make(read, call).startsWith("throws."), false);
            Calls.same(Arrays.toString(call) + " then what is seen", Calls.sight(read), before);
        }
        Edgecount house = Calls.drafted(4, 5);
        house.put(0, 3);
        for (Object[] call : READINGS) {
            make(house, call);
        }
        house.knock();
        Calls.due(house, 3, "house", 0);
        Calls.due(house, 2, "undo");
        Calls.due(house, 2, "house", 0);
        Calls.due(house, 0, "narrow", 0);
        Calls.due(house, 2, "ledger", 1);
    }

    /** if it is neither REFUSED .. */
    private static void refusedIsNoStep() {
        Edgecount house = Calls.narrows(GREATEST, LEAST);
        house.strike();
        house.up(0, 0);
        house.down(1, 1);
        house.turn(1, 1);
        house.times(0, 0, 0);
        house.over(0, 0, 5);
        house.restMixed(0, 0, 5);
        house.overMixed(0, 0, 5);
        house.restWide(0, 0, 5);
        Calls.due(house, 9, "house", 1);
        Calls.due(house, 2, "house", 0);
        Calls.due(house, 1, "undo");
        Calls.due(house, 0, "narrow", 1);
        house.enter(GREATEST);
        house.enter(1);
        Calls.due(house, -9, "book");
        Calls.due(house, -9, "horner", 0, 1);
        Calls.due(house, 3, "house", 0);
        Calls.due(house, 2, "undo");
        Calls.due(house, 1, "ledger", 1);
    }

    /** .. nor throws */
    private static void thrownIsNoStep() {
        Edgecount house = Calls.narrows(4);
        Calls.due(house, Calls.INDEX, "put", 6, 1);
        Calls.due(house, Calls.INDEX, "putWide", -1, 1, 1);
        Calls.due(house, Calls.INDEX, "plus", 0, 0, 6);
        Calls.due(house, Calls.INDEX, "fit", 6, 0);
        Calls.due(house, Calls.INDEX, "horner", 6, 0);
        Calls.due(house, Calls.ARGUMENT, "horner", 0, 37);
        Calls.due(house, 1, "house", 0);
        Calls.due(house, 0, "undo");
        Calls.due(house, 0, "narrow", 0);
        for (int k = 0; k < 20; k++) {
            house.enter(k);
        }
        house.undo();
        house.enter(30);
        Calls.due(house, Calls.STATE, "enter", 1);
        Calls.due(house, MOST, "house", 0);
        Calls.due(house, 7, "undo");
        Calls.due(house, 19, "ledger", 1);
    }

    /** (also if it changed nothing) */
    private static void stepThatChangedNothing() {
        Object[][] calls = {
            {"put", 0, 0}, {"putWide", 0, 0, 0}, {"plus", 0, 0, 0}, {"less", 0, 0, 0}, {"times", 0, 0, 0}, {"turn", 0, 0},
            {"size", 0, 0}, {"pick", 0, 0, 0, true}, {"plusWide", 0, 0, 0}, {"turnWide", 0, 0}, {"sizeWide", 0, 0},
            {"pickWide", 0, 0, 0, false}, {"timesMixed", 0, 0, 0}, {"fit", 0, 0}, {"widen", 0, 0}, {"full", 0, 0, 0},
            {"high", 0, 0, 0}, {"plain", 0, 0, 0}, {"horner", 0, 3}, {"book"}
        };
        for (Object[] call : calls) {
            Edgecount house = new Edgecount();
            house.put(5, 1);
            house.put(5, 2);
            String before = lying(house);
            make(house, call);
            Calls.same(Arrays.toString(call) + " then what lies", lying(house), before);
            Calls.due(house, 3, "house", 0);
            Calls.due(house, 2, "undo");
            Calls.same(Arrays.toString(call) + " undone, then what lies", lying(house), before);
            Calls.due(house, 1, "undo");
            Calls.due(house, 1, "narrow", 5);
        }
        Edgecount house = Calls.narrows(1);
        for (int often = 0; often < MOST; often++) {
            house.book();
        }
        // Eight of them push out the put ahead of them.
        for (int left = 7; left >= 0; left--) {
            Calls.due(house, left, "undo");
        }
        Calls.thrown(house, Calls.STATE, "undo");
        Calls.due(house, 1, "narrow", 0);
    }

    /** 8 at most are kept */
    private static void eightAreKept() {
        Edgecount house = new Edgecount();
        for (int value = 1; value <= 30; value++) {
            house.put(0, value);
            Calls.due(house, Math.min(MOST, value), "house", 0);
        }
        for (int left = 7; left >= 0; left--) {
            Calls.due(house, left, "undo");
            Calls.due(house, 22 + left, "narrow", 0);
            Calls.due(house, left, "house", 0);
        }
        Calls.thrown(house, Calls.STATE, "undo");
    }

    /** with a ninth the oldest one is forgotten */
    private static void ninthForgetsTheOldest() {
        for (int steps = 7; steps <= 10; steps++) {
            Edgecount house = new Edgecount();
            for (int value = 1; value <= steps; value++) {
                house.put(0, value);
            }
            int kept = Math.min(MOST, steps);
            for (int left = kept - 1; left >= 0; left--) {
                Calls.due(house, left, "undo");
            }
            Calls.due(house, steps - kept, "narrow", 0);
            Calls.thrown(house, Calls.STATE, "undo");
        }
    }

    private static void ninthOfEachKind() {
        for (int first = 0; first + MOST < STEPS.length; first++) {
            Edgecount house = new Edgecount();
            for (int i = 0; i <= first; i++) {
                make(house, STEPS[i]);
            }
            List<String> seen = new ArrayList<>();
            for (int i = first + 1; i <= first + MOST; i++) {
                seen.add(lying(house));
                make(house, STEPS[i]);
            }
            for (int left = MOST - 1; left >= 0; left--) {
                Calls.due(house, left, "undo");
                Calls.same("undone to the step " + left + " behind " + first, lying(house), seen.get(left));
            }
            Calls.thrown(house, Calls.STATE, "undo");
        }
    }

    /** Throws IllegalStateException if there is none */
    private static void noStepCanBeUndone() {
        Edgecount house = new Edgecount();
        Calls.thrown(house, Calls.STATE, "undo");
        house.knock();
        house.strike();
        Calls.thrown(house, Calls.STATE, "undo");
        house.put(0, 1);
        Calls.due(house, 0, "undo");
        Calls.thrown(house, Calls.STATE, "undo");
        Calls.thrown(house, Calls.STATE, "undo");
        house.put(0, 1);
        Calls.due(house, 0, "undo");
        Calls.due(house, 0, "narrow", 0);
    }

    /** To undo: cells, DRAFT, BALANCE and how many were BOOKED are as they were */
    private static void undoneIsAsBefore() {
        Edgecount house = Calls.narrows(1, 2, 3, 4, 5, 6);
        for (int cell = 0; cell <= 5; cell++) {
            house.putWide(cell, cell, -cell);
        }
        house.enter(LEAST);
        house.enter(GREATEST);
        house.book();
        house.enter(7);
        house.enter(8);
        String before = lying(house);
        house.book();
        Calls.due(house, 14, "ledger", 0);
        house.enter(100);
        house.horner(3, 5);
        house.put(5, 60);
        house.putWide(5, 60, 60);
        house.strike();
        house.book();
        for (int often = 0; often < 7; often++) {
            house.undo();
        }
        Calls.same("seven undone, then what lies", lying(house), before);
        Calls.due(house, -1, "ledger", 0);
        Calls.due(house, 2, "ledger", 2);
        Calls.due(house, 8, "draft", 1);
    }

    /** before the last STEP that was not undone */
    private static void lastStepThatWasNotUndone() {
        Edgecount house = new Edgecount();
        house.put(0, 1);
        house.put(0, 2);
        house.put(0, 3);
        Calls.due(house, 2, "undo");
        Calls.due(house, 2, "narrow", 0);
        Calls.due(house, 1, "undo");
        Calls.due(house, 1, "narrow", 0);
        house.put(0, 4);
        Calls.due(house, 1, "undo");
        Calls.due(house, 1, "narrow", 0);
        Calls.due(house, 0, "undo");
        Calls.due(house, 0, "narrow", 0);
    }

    private static void undoneThenNewSteps() {
        Edgecount house = new Edgecount();
        for (int value = 1; value <= 12; value++) {
            house.put(0, value);
        }
        house.undo();
        house.undo();
        house.undo();
        for (int value = 20; value <= 23; value++) {
            house.put(0, value);
        }
        Calls.due(house, MOST, "house", 0);
        int[] before = {22, 21, 20, 9, 8, 7, 6, 5};
        for (int i = 0; i < MOST; i++) {
            Calls.due(house, 7 - i, "undo");
            Calls.due(house, before[i], "narrow", 0);
        }
        Calls.thrown(house, Calls.STATE, "undo");
    }

    private static void eightUndoneAndEightMore() {
        Edgecount house = new Edgecount();
        for (int round = 0; round < 5; round++) {
            for (int value = 1; value <= MOST; value++) {
                house.put(0, 10 * round + value);
                house.knock();
            }
            for (int left = 7; left >= 0; left--) {
                Calls.due(house, left, "undo");
                Calls.due(house, left == 0 ? 0 : 10 * round + left, "narrow", 0);
            }
            Calls.thrown(house, Calls.STATE, "undo");
        }
    }

    /** house(1): how often REFUSED was told ever */
    private static void refusalsAreNotTakenBack() {
        Edgecount house = Calls.narrows(1, 2, 3);
        house.strike();
        house.put(0, GREATEST);
        house.up(0, 0);
        for (int often = 1; often <= 4; often++) {
            house.undo();
            Calls.due(house, 2, "house", 1);
        }
        Calls.due(house, -9, "strike");
        Calls.due(house, 3, "house", 1);
    }

    /** house(2): how often one knocked; undoing names nothing of that */
    private static void knocksAreNotTakenBack() {
        Edgecount house = Calls.narrows(1);
        house.knock();
        house.put(0, 2);
        house.knock();
        Calls.due(house, 1, "undo");
        Calls.due(house, 2, "house", 2);
        Calls.due(house, 0, "undo");
        Calls.due(house, 2, "house", 2);
        Calls.due(house, 3, "knock");
    }

    /** Returns how often one knocked, with this. */
    private static void knocksAreCounted() {
        Edgecount house = new Edgecount();
        Calls.due(house, 0, "house", 2);
        for (int often = 1; often <= 500; often++) {
            Calls.due(house, often, "knock");
        }
        Calls.due(house, 500, "house", 2);
        Calls.due(house, 0, "house", 0);
        Calls.due(house, 0, "house", 1);
    }

    /** Throws IllegalArgumentException if what is not 0 to 2 */
    private static void houseTakesZeroToTwo() {
        Edgecount house = Calls.narrows(1);
        house.strike();
        house.strike();
        house.knock();
        house.knock();
        house.knock();
        Calls.due(house, 1, "house", 0);
        Calls.due(house, 2, "house", 1);
        Calls.due(house, 3, "house", 2);
        for (int what : new int[] {LEAST, -1, 3, GREATEST}) {
            Calls.thrown(house, Calls.ARGUMENT, "house", what);
        }
    }

    /** A method that throws an exception changes nothing. */
    private static void throwingChangesNothing() {
        Object[][] calls = {
            {"put", 6, 1}, {"plus", 0, 1, 6}, {"turn", 0, -1}, {"pick", 0, 6, 1, true}, {"putWide", 6, 1, 1},
            {"restMixed", 0, 1, 6}, {"fit", -1, 0}, {"narrow", 6}, {"wide", 6}, {"fits", 5, 0, 0}, {"fitsWide", 0, 6, 0},
            {"product", 0, 6}, {"half", 6, 0, true}, {"mean", 0, 6}, {"meanWide", 6, 0}, {"ledger", 3}, {"draft", 20},
            {"enter", 1}, {"horner", 6, 1}, {"horner", 0, 37}, {"weekday", 7, 1}, {"weeks", -1, 1}, {"clock", 1440, 1},
            {"daysOn", -1, 1}, {"page", 1, 0, 1, 1}, {"digits", 1, -11}, {"digit", 1, -2, 41}, {"house", 3}
        };
        for (Object[] call : calls) {
            Edgecount house = new Edgecount();
            for (int k = 0; k < 20; k++) {
                house.enter(k);
            }
            house.strike();
            house.enter(40);
            String before = Calls.sight(house);
            Calls.same(Arrays.toString(call) + " throws", make(house, call).startsWith("throws.I"), true);
            Calls.same(Arrays.toString(call) + " then what is seen", Calls.sight(house), before);
            Calls.due(house, 7, "undo");
            Calls.due(house, 19, "ledger", 1);
            Calls.due(house, 6, "undo");
            Calls.due(house, 19, "draft", 19);
        }
    }

    /** Creates a house in whose cells lies 0: whatever another one holds. */
    private static void housesAreApart() {
        Edgecount one = Calls.narrows(1, 2, 3);
        one.enter(4);
        one.book();
        one.strike();
        one.knock();
        String seen = Calls.sight(one);
        Edgecount other = new Edgecount();
        Calls.due(other, 0, "narrow", 0);
        Calls.due(other, 0, "ledger", 0);
        Calls.due(other, 0, "house", 1);
        Calls.thrown(other, Calls.STATE, "undo");
        other.put(0, 9);
        other.enter(8);
        other.knock();
        Calls.same("one house behind acts on the other", Calls.sight(one), seen);
    }
}
