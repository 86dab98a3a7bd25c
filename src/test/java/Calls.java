import java.lang.reflect.InvocationTargetException;
import java.lang.reflect.Method;
import java.lang.reflect.Modifier;
import java.util.Arrays;
import java.util.Map;
import java.util.Set;
import java.util.TreeMap;

/** Makes calls on a house by name, and counts the answers that are not due. */
final class Calls {
    static final String INDEX = "throws.IndexOutOfBoundsException";
    static final String ARGUMENT = "throws.IllegalArgumentException";
    static final String STATE = "throws.IllegalStateException";

    private static final Map<String, Method> FACE = face();
    private static int right = 0;
    private static int wrong = 0;

    private Calls() {
    }

    private static Map<String, Method> face() {
        Map<String, Method> found = new TreeMap<>();
        for (Method method : Edgecount.class.getDeclaredMethods()) {
            if (Modifier.isPublic(method.getModifiers())) {
                found.put(method.getName(), method);
            }
        }
        return found;
    }

    static Set<String> names() {
        return FACE.keySet();
    }

    static Method method(String name) {
        Method method = FACE.get(name);
        if (method == null) {
            throw new IllegalStateException("no method " + name);
        }
        return method;
    }

    /** What the call answers as a text: a number, a truth, a text, or throws.E. */
    static String answer(Edgecount house, String name, Object... args) {
        try {
            return String.valueOf(method(name).invoke(house, args));
        } catch (InvocationTargetException e) {
            // The exact class is told, so that what the machine throws is never taken for what is due.
            return "throws." + e.getCause().getClass().getSimpleName();
        } catch (IllegalAccessException e) {
            throw new IllegalStateException(e);
        }
    }

    static void due(Edgecount house, Object want, String name, Object... args) {
        same(name + Arrays.toString(args), answer(house, name, args), want);
    }

    static void same(String what, Object got, Object want) {
        if (String.valueOf(got).equals(String.valueOf(want))) {
            right++;
        } else {
            wrong++;
            System.out.println(what + " answered " + got + ", due is " + want);
        }
    }

    /** All that a house shows of what lies in it. */
    static String sight(Edgecount house) {
        StringBuilder seen = new StringBuilder();
        for (int cell = 0; cell < 6; cell++) {
            seen.append(house.narrow(cell)).append(' ').append(house.wide(cell)).append(' ');
        }
        for (int what = 0; what <= 2; what++) {
            seen.append(house.ledger(what)).append(' ').append(house.house(what)).append(' ');
        }
        for (int k = 0; k < house.ledger(1); k++) {
            seen.append(house.draft(k)).append(' ');
        }
        return seen.toString();
    }

    /** The call throws what is due, and leaves all as it was. */
    static void thrown(Edgecount house, String want, String name, Object... args) {
        String before = sight(house);
        due(house, want, name, args);
        same(name + Arrays.toString(args) + " then what is seen", sight(house), before);
    }

    /** The call is REFUSED, which is counted, and nothing else changes. */
    static void refused(Edgecount house, String name, Object... args) {
        int steps = house.house(0);
        int refusals = house.house(1);
        String lying = lying(house);
        due(house, -9, name, args);
        due(house, steps, "house", 0);
        due(house, refusals + 1, "house", 1);
        same(name + Arrays.toString(args) + " then what lies", lying(house), lying);
    }

    /** The call tells the answer and is one more STEP (of 8 at most), not REFUSED. */
    static void step(Edgecount house, Object want, String name, Object... args) {
        int steps = house.house(0);
        int refusals = house.house(1);
        due(house, want, name, args);
        due(house, Math.min(8, steps + 1), "house", 0);
        due(house, refusals, "house", 1);
    }

    private static String lying(Edgecount house) {
        StringBuilder seen = new StringBuilder();
        for (int cell = 0; cell < 6; cell++) {
            seen.append(house.narrow(cell)).append(' ').append(house.wide(cell)).append(' ');
        }
        for (int what = 0; what <= 2; what++) {
            seen.append(house.ledger(what)).append(' ');
        }
        for (int k = 0; k < house.ledger(1); k++) {
            seen.append(house.draft(k)).append(' ');
        }
        return seen.toString();
    }

    /** Each argument named in places must be a cell: 0 to 5. */
    static void cellsOnly(String name, int[] places, Object... args) {
        int[] wrongCells = {-1, 6, Integer.MIN_VALUE, Integer.MAX_VALUE};
        for (int place : places) {
            for (int cell : wrongCells) {
                Object[] changed = args.clone();
                changed[place] = cell;
                thrown(new Edgecount(), INDEX, name, changed);
            }
            Object[] last = args.clone();
            last[place] = 5;
            same(name + " takes cell 5", answer(new Edgecount(), name, last).startsWith("throws."), false);
        }
    }

    static Edgecount narrows(int... values) {
        Edgecount house = new Edgecount();
        for (int cell = 0; cell < values.length; cell++) {
            house.put(cell, values[cell]);
        }
        return house;
    }

    static Edgecount wides(long... values) {
        Edgecount house = new Edgecount();
        for (int cell = 0; cell < values.length; cell++) {
            house.putWide(cell, (int) (values[cell] >> 32), (int) values[cell]);
        }
        return house;
    }

    static Edgecount drafted(int... amounts) {
        Edgecount house = new Edgecount();
        for (int amount : amounts) {
            house.enter(amount);
        }
        return house;
    }

    /** Ends the test: with exit code 1 if an answer was not the one that is due. */
    static void end() {
        System.out.println(right + " answers are as due, " + wrong + " are not");
        if (wrong != 0 || right == 0) {
            System.exit(1);
        }
    }
}
