import java.util.Arrays;
import java.util.Random;
import java.util.TreeSet;

/** Long runs of calls, the same ones each time, on a house and on the model side by side. */
public final class ModelTest {
    private static final int RUNS = 400;
    private static final int CALLS = 512;
    private static final int[] EDGES = {
        Integer.MIN_VALUE, Integer.MIN_VALUE + 1, -1073741824, -46341, -46340, -65536, -7, -3, -2, -1,
        0, 1, 2, 3, 7, 46340, 46341, 65535, 65536, 1073741823, 1073741824, Integer.MAX_VALUE - 1, Integer.MAX_VALUE
    };
    private static final String[] NAMES = {
        "put", "put", "put", "plus", "less", "times", "over", "rest", "up", "down", "turn", "size", "pick",
        "putWide", "putWide", "putWide", "plusWide", "lessWide", "timesWide", "overWide", "restWide", "upWide",
        "downWide", "turnWide", "sizeWide", "pickWide", "overMixed", "restMixed", "timesMixed", "fit", "widen",
        "full", "high", "plain", "narrow", "wide", "fits", "fitsWide", "product", "half", "mean", "meanWide",
        "enter", "enter", "enter", "enter", "strike", "book", "which", "ledger", "draft", "horner", "weekday", "weeks",
        "clock", "daysOn", "page", "digits", "digit", "undo", "undo", "knock", "house", "isSound", "digest"
    };

    private final Random random;

    private ModelTest(int seed) {
        random = new Random(seed);
    }

    public static void main(String[] args) {
        allOfTheFace();
        for (int run = 0; run < RUNS; run++) {
            new ModelTest(run).compare(run);
        }
        compareAllEdges();
        Calls.end();
    }

    /** The calls of all promises are mixed: no method of the face is left out. */
    private static void allOfTheFace() {
        Calls.same("the methods that are called", new TreeSet<>(Arrays.asList(NAMES)), Calls.names());
    }

    private void compare(int run) {
        Edgecount house = new Edgecount();
        Model model = new Model();
        // Every other run keeps to small numbers, so that acts are less often REFUSED.
        boolean isSmall = run % 2 == 1;
        for (int i = 1; i < CALLS; i++) {
            String name = NAMES[random.nextInt(NAMES.length)];
            Object[] args = arguments(name, isSmall);
            String told = Calls.answer(house, name, args);
            Calls.same("run " + run + " call " + i + " " + name + Arrays.toString(args), told, model.answer(name, args));
        }
        // The call 512 is the last one of which anything is promised.
        Calls.same("run " + run + " digest", house.digest(), model.answer("digest"));
    }

    private Object[] arguments(String name, boolean isSmall) {
        Class<?>[] types = Calls.method(name).getParameterTypes();
        Object[] args = new Object[types.length];
        for (int i = 0; i < types.length; i++) {
            args[i] = types[i] == boolean.class ? (Object) random.nextBoolean() : (Object) number(name, i, isSmall);
        }
        return args;
    }

    /** Mostly what the method takes there, now and then what it does not. */
    private int number(String name, int place, boolean isSmall) {
        if (random.nextInt(40) == 0) {
            return EDGES[random.nextInt(EDGES.length)];
        }
        switch (name) {
            case "put":
            case "putWide":
                return place == 0 ? between(0, 5) : any(isSmall);
            case "enter":
                return any(isSmall);
            case "fits":
            case "fitsWide":
                return place == 0 ? between(-1, 5) : between(0, 5);
            case "ledger":
            case "house":
                return between(-1, 3);
            case "draft":
                return between(-1, 8);
            case "horner":
                return place == 0 ? between(0, 5) : between(-37, 37);
            case "weekday":
            case "weeks":
                return place == 0 ? between(-1, 7) : any(isSmall);
            case "clock":
            case "daysOn":
                return place == 0 ? between(-1, 1440) : any(isSmall);
            case "page":
                return place == 0 ? any(isSmall) : place == 3 ? between(-1, 3) : between(0, 100);
            case "digits":
                return place == 0 ? any(isSmall) : between(-11, -1);
            case "digit":
                return place == 0 ? any(isSmall) : place == 1 ? between(-11, -1) : between(-1, 41);
            default:
                return between(0, 5);
        }
    }

    private int between(int least, int greatest) {
        return least + random.nextInt(greatest - least + 1);
    }

    private int any(boolean isSmall) {
        if (isSmall) {
            return between(-300, 300);
        }
        return random.nextBoolean() ? EDGES[random.nextInt(EDGES.length)] : random.nextInt();
    }

    /** Each two edges, each act on them. */
    private static void compareAllEdges() {
        String[] acts = {
            "plus", "less", "times", "over", "rest", "plusWide", "lessWide", "timesWide", "overWide", "restWide",
            "overMixed", "restMixed", "timesMixed", "full", "high", "plain"
        };
        for (int x : EDGES) {
            for (int y : EDGES) {
                for (boolean isDoubled : new boolean[] {false, true}) {
                    compareEdges(acts, x, y, isDoubled);
                }
            }
        }
    }

    private static void compareEdges(String[] acts, int x, int y, boolean isDoubled) {
        Edgecount house = new Edgecount();
        Model model = new Model();
        both(house, model, "put", 0, x);
        both(house, model, "put", 1, y);
        // Doubled, the same edges lie at the edges of the wide SPAN and of its halves.
        both(house, model, "putWide", 0, isDoubled ? x : x >> 31, isDoubled ? y : x);
        both(house, model, "putWide", 1, isDoubled ? y : y >> 31, isDoubled ? x : y);
        for (String act : acts) {
            both(house, model, act, 2, 0, 1);
            both(house, model, "narrow", 2);
            both(house, model, "wide", 2);
        }
        for (String act : new String[] {"turn", "size", "up", "down", "turnWide", "sizeWide", "upWide", "downWide", "fit", "widen"}) {
            both(house, model, act, 2, 0);
            both(house, model, "narrow", 2);
            both(house, model, "wide", 2);
        }
        for (int what = 0; what <= 4; what++) {
            both(house, model, "fits", what, 0, 1);
            both(house, model, "fitsWide", what, 0, 1);
        }
        both(house, model, "product", 0, 1);
        both(house, model, "mean", 0, 1);
        both(house, model, "meanWide", 0, 1);
        both(house, model, "isSound");
        both(house, model, "digest");
    }

    private static void both(Edgecount house, Model model, String name, Object... args) {
        Calls.same(name + Arrays.toString(args), Calls.answer(house, name, args), model.answer(name, args));
    }
}
