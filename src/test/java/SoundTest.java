import java.io.ByteArrayOutputStream;
import java.io.IOException;
import java.lang.reflect.Method;
import java.net.URL;
import java.net.URLClassLoader;
import java.nio.file.Files;
import java.nio.file.Path;
import java.util.stream.Stream;
import javax.tools.JavaCompiler;
import javax.tools.ToolProvider;

/**
 * Promise 57 once more. For a right program isSound() always tells true, so here copies of the program are
 * made, each broken in one place of its arithmetic, and isSound() of the copy must tell false.
 */
public final class SoundTest {
    private static final JavaCompiler COMPILER = ToolProvider.getSystemJavaCompiler();
    private static final Path SOURCE = Path.of(System.getProperty("edgecount.root", "."), "src/main/java/Edgecount.java");

    private static final String QUOTIENT = "return y == 0 ? 0 : Math.floorDiv(x, y);";
    private static final String REMAINDER = "return y == 0 ? 0 : Math.floorMod(x, y);";
    private static final String NARROW_WRITTEN = "return isDivision(what) ? y != 0 : isNarrow(outcome(what, x, y));";
    private static final String WIDE_SUM = "return ((x ^ n) & (y ^ n)) >= 0;";
    private static final String WIDE_DIFFERENCE = "return ((x ^ y) & (x ^ n)) >= 0;";
    private static final String WIDE_PRODUCT = "return upperHalf(x, y) == signHalf(n);";
    private static final String WIDE_TURNED = "return x != LEAST_WIDE;";
    private static final String TURNED = "return -x;";
    private static final String SIZE = "return n < 0 ? -n : n;";
    private static final String NARROW_SIZE = "return (int) withoutSign(n);";
    private static final String NARROW_MEAN = "return (int) ((x + y) >> 1);";
    private static final String WIDE_MEAN = "return (x & y) + ((x ^ y) >> 1);";
    private static final String HIGH = "return xHigh * yHigh + (middle >> LIMB_BITS) + (lowerMiddle >> LIMB_BITS);";
    private static final String PLAIN = "return x * y;";
    private static final String DIGIT = "long last = Math.floorMod(left, -(long) base);";

    private static final int[] NO_NARROWS = {};
    private static final long[] NO_WIDES = {};

    private SoundTest() {
    }

    public static void main(String[] args) throws IOException, ReflectiveOperationException {
        if (COMPILER == null) {
            throw new IllegalStateException("no compiler: the tests need a JDK");
        }
        rightProgram();
        quotientAndRemainder();
        sumsInTheSpan();
        wideInTheSpan();
        turnedInTheSpan();
        sizes();
        means();
        halves();
        digits();
        Calls.end();
    }

    /** Compiled the same way, the program as it stands tells true of all the cells below. */
    private static void rightProgram() throws IOException, ReflectiveOperationException {
        int least = Integer.MIN_VALUE;
        int greatest = Integer.MAX_VALUE;
        sees(true, "", "", new int[] {least, greatest, -1, 0, 2, 46341}, new long[] {1L << 32, -7, 2, 0, -1});
        sees(true, "", "", new int[] {-7, 2, least + 1}, new long[] {Long.MIN_VALUE, Long.MAX_VALUE, -1, 1, 3});
    }

    private static void narrow(String from, String to, int... narrows) throws IOException, ReflectiveOperationException {
        sees(false, from, to, narrows, NO_WIDES);
    }

    private static void wide(String from, String to, long... wides) throws IOException, ReflectiveOperationException {
        sees(false, from, to, NO_NARROWS, wides);
    }

    /** a is QUOTIENT * b + REMAINDER, REMAINDER is 0 or lies between 0 and b */
    private static void quotientAndRemainder() throws IOException, ReflectiveOperationException {
        String towardsZero = "return y == 0 ? 0 : x / y;";
        String withSign = "return y == 0 ? 0 : x % y;";
        narrow(QUOTIENT, towardsZero, -7, 2);
        narrow(REMAINDER, withSign, -7, 2);
        wide(QUOTIENT, towardsZero, -7, 2);
        wide(REMAINDER, withSign, 7, -2);
        // What belongs together still does not lie between 0 and b.
        narrow(QUOTIENT + REMAINDER, towardsZero + withSign, -7, 2);
        wide(QUOTIENT + REMAINDER, towardsZero + withSign, 7, -2);
        narrow(QUOTIENT + REMAINDER, "return y == 0 ? 0 : 0;" + "return y == 0 ? 0 : x;", 7, 2);
        // The REMAINDER must not be b itself: seen by a cell and itself alone.
        narrow(QUOTIENT + REMAINDER, "return y == 0 ? 0 : x == y ? 0 : Math.floorDiv(x, y);"
            + "return y == 0 ? 0 : x == y ? y : Math.floorMod(x, y);", 5);
        wide(QUOTIENT + REMAINDER, "return y == 0 ? 0 : x == y ? 0 : Math.floorDiv(x, y);"
            + "return y == 0 ? 0 : x == y ? y : Math.floorMod(x, y);", -5);
        wide(QUOTIENT + REMAINDER, "return y == 0 ? 0 : x == y ? 0 : Math.floorDiv(x, y);"
            + "return y == 0 ? 0 : x == y ? y : Math.floorMod(x, y);", 5);
        // Right as it goes round alone: twice the QUOTIENT differs from what is due by 2^64.
        wide(QUOTIENT, "return y == 0 ? 0 : Math.floorDiv(x, y) ^ (y == 2 ? Long.MIN_VALUE : 0);", 7, 2);
        // what over() would write is QUOTIENT, as it GOES ROUND: LEAST by -1
        String kept = "return y == 0 ? 0 : x == Long.MIN_VALUE && y == -1 ? Long.MAX_VALUE : Math.floorDiv(x, y);";
        wide(QUOTIENT, kept, Long.MIN_VALUE, -1);
    }

    /** a + b, a - b, a * b and -a would be written just if they are in the SPAN, and then as they are */
    private static void sumsInTheSpan() throws IOException, ReflectiveOperationException {
        String always = "return isDivision(what) ? y != 0 : true;";
        String[] tooFew = {
            "what != SUM && isNarrow(outcome(what, x, y))", "what != DIFFERENCE && isNarrow(outcome(what, x, y))",
            "what != PRODUCT && isNarrow(outcome(what, x, y))", "what != TURNED && isNarrow(outcome(what, x, y))"
        };
        for (String few : tooFew) {
            narrow(NARROW_WRITTEN, "return isDivision(what) ? y != 0 : " + few + ";", 3, 4);
        }
        String[] tooMany = {
            "what == SUM || isNarrow(outcome(what, x, y))", "what == DIFFERENCE || isNarrow(outcome(what, x, y))",
            "what == PRODUCT || isNarrow(outcome(what, x, y))", "what == TURNED || isNarrow(outcome(what, x, y))"
        };
        int[][] over = {{Integer.MAX_VALUE, 1}, {Integer.MIN_VALUE, 1}, {65536, 32768}, {Integer.MIN_VALUE}};
        for (int i = 0; i < tooMany.length; i++) {
            narrow(NARROW_WRITTEN, "return isDivision(what) ? y != 0 : (" + tooMany[i] + ");", over[i]);
        }
        // A cell and itself, too: one cell alone goes over, with itself.
        narrow(NARROW_WRITTEN, always, 46341);
        narrow(NARROW_WRITTEN, "return isDivision(what) ? y != 0 : isNarrow((int) x * (int) y);", 46341, 1);
        narrow("return x + y;", "return x + y + (x == y && x != 0 ? 1 : 0);", 3);
        narrow("return x - y;", "return x - y + 1;", 3);
        narrow(PLAIN, "return x * y + (x > 2 ? y : 0);", 3);
        narrow(TURNED, "return ~x;", 3);
    }

    private static void wideInTheSpan() throws IOException, ReflectiveOperationException {
        wide(WIDE_SUM, "return true;", Long.MAX_VALUE, 1);
        wide(WIDE_SUM, "return true;", Long.MIN_VALUE, -1);
        wide(WIDE_SUM, "return ((x ^ n) & (y ^ n)) > 0;", 0);
        wide(WIDE_SUM, "return n != Long.MAX_VALUE && ((x ^ n) & (y ^ n)) >= 0;", Long.MAX_VALUE - 1, 1);
        wide(WIDE_SUM, "return n != Long.MIN_VALUE && ((x ^ n) & (y ^ n)) >= 0;", Long.MIN_VALUE + 1, -1);
        wide(WIDE_DIFFERENCE, "return true;", Long.MIN_VALUE, 1);
        wide(WIDE_DIFFERENCE, "return true;", Long.MIN_VALUE);
        wide(WIDE_DIFFERENCE, "return n != 0 && ((x ^ y) & (x ^ n)) >= 0;", 5);
        wide(WIDE_PRODUCT, "return true;", 1L << 32, 1L << 31);
        wide(WIDE_PRODUCT, "return true;", 274177, 67280421310721L);
        wide(WIDE_PRODUCT, "return upperHalf(x, y) == 0;", -3, 5);
        wide(WIDE_PRODUCT, "return x == 0 || n / x == y;", Long.MIN_VALUE, -1);
        wide(WIDE_PRODUCT, "return n != Long.MIN_VALUE && upperHalf(x, y) == signHalf(n);", 1L << 32, -(1L << 31));
        wide(WIDE_PRODUCT, "return n != Long.MAX_VALUE && upperHalf(x, y) == signHalf(n);", 7, 1317624576693539401L);
    }

    private static void turnedInTheSpan() throws IOException, ReflectiveOperationException {
        wide(WIDE_TURNED, "return true;", Long.MIN_VALUE);
        wide(WIDE_TURNED, "return x > -Long.MAX_VALUE;", Long.MIN_VALUE + 1);
        wide(TURNED, "return x == Long.MIN_VALUE + 1 ? x : -x;", Long.MIN_VALUE + 1);
    }

    /** the size of a is a or -a, and below 0 for LEAST alone */
    private static void sizes() throws IOException, ReflectiveOperationException {
        narrow(NARROW_SIZE, "return n;", -3);
        narrow(NARROW_SIZE, "return n == Integer.MIN_VALUE ? Integer.MAX_VALUE : (int) withoutSign(n);", Integer.MIN_VALUE);
        narrow(NARROW_SIZE, "return n == Integer.MIN_VALUE + 1 ? n : (int) withoutSign(n);", Integer.MIN_VALUE + 1);
        narrow(NARROW_SIZE, "return n == 5 ? 6 : (int) withoutSign(n);", 5);
        narrow(NARROW_SIZE, "return n == -1 ? n : (int) withoutSign(n);", -1);
        wide(SIZE, "return n == -1 ? n : n < 0 ? -n : n;", -1);
        wide(SIZE, "return n;", -3);
        wide(SIZE, "return n == Long.MIN_VALUE ? Long.MAX_VALUE : n < 0 ? -n : n;", Long.MIN_VALUE);
        wide(SIZE, "return n == Long.MIN_VALUE + 1 ? n : n < 0 ? -n : n;", Long.MIN_VALUE + 1);
        wide(SIZE, "return n < 0 ? ~n : n;", -3);
    }

    /** the mean of a and b is not below the lesser and not above the greater one */
    private static void means() throws IOException, ReflectiveOperationException {
        narrow(NARROW_MEAN, "return ((int) x + (int) y) >> 1;", Integer.MAX_VALUE, Integer.MAX_VALUE - 1);
        narrow(NARROW_MEAN, "return ((int) x + (int) y) >> 1;", Integer.MIN_VALUE);
        narrow(NARROW_MEAN, "return (int) ((x + y) >> 1) - 1;", 5);
        narrow(NARROW_MEAN, "return (int) ((x + y + 2) >> 1);", 5);
        wide(WIDE_MEAN, "return (x + y) >> 1;", Long.MAX_VALUE);
        wide(WIDE_MEAN, "return (x + y) >> 1;", Long.MIN_VALUE, Long.MIN_VALUE + 1);
        wide(WIDE_MEAN, "return (x & y) + ((x ^ y) >> 1) + (x == y ? 1 : 0);", -5);
    }

    /** for WIDE cells the halves of a * b make a * b */
    private static void halves() throws IOException, ReflectiveOperationException {
        wide(HIGH, "return xHigh * yHigh + (middle >> LIMB_BITS);", 1L << 33, 4294967295L);
        wide(HIGH, "return xHigh * yHigh;", Long.MAX_VALUE);
        wide(HIGH, "return xHigh * yHigh + (middle >>> LIMB_BITS) + (lowerMiddle >> LIMB_BITS);", -1, 1);
        wide(HIGH, "return xHigh * yHigh + (middle >> LIMB_BITS) + (lowerMiddle >>> LIMB_BITS);", -1, 1);
        wide(PLAIN, "return x * y + (x == y && x == 1L << 40 ? 1 : 0);", 1L << 40);
    }

    /** a NARROW cell is what its DIGITS in each BASE make */
    private static void digits() throws IOException, ReflectiveOperationException {
        narrow(DIGIT, "long last = left < 0 ? 0 : left % -(long) base;", -3);
        narrow(DIGIT, "long last = base == -10 && left == 7 ? 6 : Math.floorMod(left, -(long) base);", 7);
        narrow(DIGIT, "long last = base == -2 && left == 4 ? 1 : Math.floorMod(left, -(long) base);", 4);
        narrow("MOST_DIGITS = 40", "MOST_DIGITS = 31", Integer.MIN_VALUE);
    }

    /** Whether isSound() of the copy tells what is due, with these numbers in the first cells. */
    private static void sees(boolean want, String from, String to, int[] narrows, long[] wides)
            throws IOException, ReflectiveOperationException {
        Path dir = Files.createTempDirectory("edgecount");
        try {
            boolean isMade = compile(dir, broken(from, to));
            Calls.same("made and compiled: " + to, isMade, true);
            if (isMade) {
                Calls.same("isSound() with " + to, isSound(dir, narrows, wides), want);
            }
        } finally {
            delete(dir);
        }
    }

    /** The program with from (or with both of two statements) in it replaced; empty if it is not there just once. */
    private static String broken(String from, String to) throws IOException {
        String text = Files.readString(SOURCE);
        String[] olds = from.isEmpty() ? new String[0] : from.split("(?<=;)");
        String[] news = to.split("(?<=;)");
        for (int i = 0; i < olds.length; i++) {
            int at = text.indexOf(olds[i]);
            if (at < 0 || text.indexOf(olds[i], at + 1) >= 0) {
                System.out.println("not there just once: " + olds[i]);
                return "";
            }
            text = text.substring(0, at) + news[i] + text.substring(at + olds[i].length());
        }
        return text;
    }

    private static boolean compile(Path dir, String text) throws IOException {
        if (text.isEmpty()) {
            return false;
        }
        Path file = dir.resolve("Edgecount.java");
        Files.writeString(file, text);
        return COMPILER.run(null, null, new ByteArrayOutputStream(), "-d", dir.toString(), file.toString()) == 0;
    }

    private static boolean isSound(Path dir, int[] narrows, long[] wides) throws IOException, ReflectiveOperationException {
        URL[] places = {dir.toUri().toURL()};
        // Without a parent that knows the right Edgecount, the broken copy is the one that is loaded.
        try (URLClassLoader loader = new URLClassLoader(places, ClassLoader.getPlatformClassLoader())) {
            Class<?> copy = loader.loadClass("Edgecount");
            Object house = copy.getConstructor().newInstance();
            Method put = copy.getMethod("put", int.class, int.class);
            Method putWide = copy.getMethod("putWide", int.class, int.class, int.class);
            for (int cell = 0; cell < narrows.length; cell++) {
                put.invoke(house, cell, narrows[cell]);
            }
            for (int cell = 0; cell < wides.length; cell++) {
                putWide.invoke(house, cell, (int) (wides[cell] >> 32), (int) wides[cell]);
            }
            return (Boolean) copy.getMethod("isSound").invoke(house);
        }
    }

    private static void delete(Path dir) throws IOException {
        try (Stream<Path> files = Files.list(dir)) {
            for (Path file : files.toList()) {
                Files.delete(file);
            }
        }
        Files.delete(dir);
    }
}
