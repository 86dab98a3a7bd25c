import java.lang.reflect.Constructor;
import java.lang.reflect.Field;
import java.lang.reflect.Method;
import java.lang.reflect.Modifier;
import java.util.Set;
import java.util.TreeSet;

/** The class shows the document's face and nothing besides (LANGUAGE.md, rules 1 and 5). */
public final class FaceTest {
    private static final String INDEX = " throws IndexOutOfBoundsException";
    private static final String ARGUMENT = " throws IllegalArgumentException";
    private static final String STATE = " throws IllegalStateException";
    private static final String BOTH = INDEX + ", IllegalArgumentException";
    private static final String[] FACE = {
        "int put(int, int)" + INDEX, "int plus(int, int, int)" + INDEX, "int less(int, int, int)" + INDEX,
        "int times(int, int, int)" + INDEX, "int over(int, int, int)" + INDEX, "int rest(int, int, int)" + INDEX,
        "int up(int, int)" + INDEX, "int down(int, int)" + INDEX, "int turn(int, int)" + INDEX,
        "int size(int, int)" + INDEX, "int pick(int, int, int, boolean)" + INDEX,
        "long putWide(int, int, int)" + INDEX, "int plusWide(int, int, int)" + INDEX,
        "int lessWide(int, int, int)" + INDEX, "int timesWide(int, int, int)" + INDEX,
        "int overWide(int, int, int)" + INDEX, "int restWide(int, int, int)" + INDEX, "int upWide(int, int)" + INDEX,
        "int downWide(int, int)" + INDEX, "int turnWide(int, int)" + INDEX, "int sizeWide(int, int)" + INDEX,
        "int pickWide(int, int, int, boolean)" + INDEX, "int overMixed(int, int, int)" + INDEX,
        "int restMixed(int, int, int)" + INDEX, "int timesMixed(int, int, int)" + INDEX, "int fit(int, int)" + INDEX,
        "int widen(int, int)" + INDEX, "int full(int, int, int)" + INDEX, "int high(int, int, int)" + INDEX,
        "int plain(int, int, int)" + INDEX, "int narrow(int)" + INDEX, "long wide(int)" + INDEX,
        "boolean fits(int, int, int)" + BOTH, "boolean fitsWide(int, int, int)" + BOTH,
        "String product(int, int)" + INDEX, "long half(int, int, boolean)" + INDEX, "int mean(int, int)" + INDEX,
        "long meanWide(int, int)" + INDEX, "int enter(int)" + STATE, "int strike()", "int book()", "int which()",
        "int ledger(int)" + ARGUMENT, "int draft(int)" + INDEX, "int horner(int, int)" + BOTH,
        "int weekday(int, int)" + ARGUMENT, "int weeks(int, int)" + ARGUMENT, "int clock(int, int)" + ARGUMENT,
        "int daysOn(int, int)" + ARGUMENT, "int page(int, int, int, int)" + ARGUMENT,
        "String digits(int, int)" + ARGUMENT, "int digit(int, int, int)" + ARGUMENT, "int undo()" + STATE,
        "int knock()", "int house(int)" + ARGUMENT, "boolean isSound()", "long digest()"
    };

    private FaceTest() {
    }

    public static void main(String[] args) {
        Calls.same("the class", Modifier.toString(Edgecount.class.getModifiers()), "public final");
        methods();
        constructors();
        fields();
        Calls.end();
    }

    private static void methods() {
        Set<String> due = new TreeSet<>(Set.of(FACE));
        Set<String> got = new TreeSet<>();
        Set<String> publicNames = new TreeSet<>();
        for (Method method : Edgecount.class.getDeclaredMethods()) {
            if (!Modifier.isPrivate(method.getModifiers())) {
                got.add(written(method));
                publicNames.add(method.getName());
                Calls.same(method.getName(), Modifier.toString(method.getModifiers()), "public");
            }
        }
        Calls.same("the face", got, due);
        privateNames(Edgecount.class, publicNames);
        for (Class<?> inside : Edgecount.class.getDeclaredClasses()) {
            privateNames(inside, publicNames);
            Calls.same(inside + " is static", Modifier.isStatic(inside.getModifiers()), true);
        }
    }

    private static void privateNames(Class<?> owner, Set<String> publicNames) {
        for (Method method : owner.getDeclaredMethods()) {
            if (!Modifier.isPublic(method.getModifiers())) {
                String name = method.getName();
                Calls.same(name + " is a name of the face", publicNames.contains(name), false);
            }
        }
    }

    private static String written(Method method) {
        return method.getReturnType().getSimpleName() + " " + method.getName()
                + "(" + list(method.getParameterTypes()) + ")"
                + (method.getExceptionTypes().length == 0 ? "" : " throws " + list(method.getExceptionTypes()));
    }

    private static String list(Class<?>[] types) {
        StringBuilder row = new StringBuilder();
        for (Class<?> type : types) {
            row.append(row.length() == 0 ? "" : ", ").append(type.getSimpleName());
        }
        return row.toString();
    }

    private static void constructors() {
        Constructor<?>[] all = Edgecount.class.getDeclaredConstructors();
        Calls.same("constructors", all.length, 1);
        Calls.same("the constructor", all[0].toString(), "public Edgecount()");
    }

    private static void fields() {
        for (Field field : Edgecount.class.getDeclaredFields()) {
            int how = field.getModifiers();
            Calls.same(field.getName() + " is private", Modifier.isPrivate(how), true);
            Calls.same(field.getName() + " keeps no static state", !Modifier.isStatic(how) || Modifier.isFinal(how), true);
        }
    }
}
