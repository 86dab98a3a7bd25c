import java.math.BigInteger;
import java.util.ArrayList;
import java.util.List;

/**
 * The document once more, with numbers that have no SPAN of their own, so that its answers
 * lean on nothing that Edgecount does. It knows every method but toString, equals and hashCode.
 */
final class Model {
    private static final BigInteger TWO = BigInteger.TWO;

    private static final class Refused extends RuntimeException {
        private static final long serialVersionUID = 1L;
    }

    private static final class State {
        BigInteger[] narrow = zeros();
        BigInteger[] wide = zeros();
        List<Integer> draft = new ArrayList<>();
        BigInteger balance = BigInteger.ZERO;
        int booked = 0;

        State copy() {
            State other = new State();
            other.narrow = narrow.clone();
            other.wide = wide.clone();
            other.draft = new ArrayList<>(draft);
            other.balance = balance;
            other.booked = booked;
            return other;
        }

        private static BigInteger[] zeros() {
            BigInteger[] cells = new BigInteger[6];
            java.util.Arrays.fill(cells, BigInteger.ZERO);
            return cells;
        }
    }

    private State now = new State();
    private final List<State> steps = new ArrayList<>();
    private int refusals = 0;
    private int knocks = 0;

    /** The answer as Calls.answer() would write it. */
    String answer(String name, Object... args) {
        State before = now.copy();
        try {
            return String.valueOf(call(name, args));
        } catch (Refused e) {
            now = before;
            refusals++;
            return "-9";
        } catch (IndexOutOfBoundsException | IllegalArgumentException | IllegalStateException e) {
            now = before;
            return "throws." + e.getClass().getSimpleName();
        }
    }

    private Object call(String name, Object[] args) {
        int[] n = new int[args.length];
        boolean flag = false;
        for (int i = 0; i < args.length; i++) {
            if (args[i] instanceof Boolean) {
                flag = (Boolean) args[i];
            } else {
                n[i] = (Integer) args[i];
            }
        }
        switch (name) {
            case "put":
            case "putWide":
                return put(name.equals("putWide"), n);
            case "narrow":
                return cell(false, n[0]);
            case "wide":
                return cell(true, n[0]);
            case "fits":
            case "fitsWide":
                return fits(name.equals("fitsWide"), n);
            case "product":
                return cell(true, n[0]).multiply(cell(true, n[1])).toString();
            case "half":
                return half(n[0], n[1], flag);
            case "mean":
            case "meanWide":
                return mean(name.equals("meanWide"), n);
            case "enter":
            case "strike":
            case "book":
            case "which":
            case "ledger":
            case "draft":
            case "horner":
                return callLedger(name, n);
            case "weekday":
            case "weeks":
            case "clock":
            case "daysOn":
            case "page":
            case "digits":
            case "digit":
                return callCount(name, n);
            case "undo":
            case "knock":
            case "house":
            case "isSound":
            case "digest":
                return callHouse(name, n);
            default:
                return act(name, n, flag);
        }
    }

    // ---- cells

    private static void need(boolean isCell) {
        if (!isCell) {
            throw new IndexOutOfBoundsException();
        }
    }

    private static void needArgument(boolean isRight) {
        if (!isRight) {
            throw new IllegalArgumentException();
        }
    }

    private BigInteger cell(boolean isWide, int cell) {
        need(cell >= 0 && cell <= 5);
        return isWide ? now.wide[cell] : now.narrow[cell];
    }

    private void step() {
        steps.add(now.copy());
        if (steps.size() > 8) {
            steps.remove(0);
        }
    }

    private static int bits(boolean isWide) {
        return isWide ? 64 : 32;
    }

    static boolean isInSpan(boolean isWide, BigInteger n) {
        BigInteger edge = TWO.pow(bits(isWide) - 1);
        return n.compareTo(edge.negate()) >= 0 && n.compareTo(edge) < 0;
    }

    static BigInteger goneRound(boolean isWide, BigInteger n) {
        BigInteger edge = TWO.pow(bits(isWide) - 1);
        return n.add(edge).mod(TWO.pow(bits(isWide))).subtract(edge);
    }

    static BigInteger floor(BigInteger x, BigInteger y) {
        BigInteger[] both = x.divideAndRemainder(y);
        boolean isAbove = both[1].signum() != 0 && both[1].signum() != y.signum();
        return isAbove ? both[0].subtract(BigInteger.ONE) : both[0];
    }

    static BigInteger left(BigInteger x, BigInteger y) {
        return x.subtract(floor(x, y).multiply(y));
    }

    private int write(boolean isWide, int to, BigInteger n) {
        if (!isInSpan(isWide, n)) {
            throw new Refused();
        }
        step();
        (isWide ? now.wide : now.narrow)[to] = n;
        return 1;
    }

    private Object put(boolean isWide, int[] n) {
        BigInteger before = cell(isWide, n[0]);
        BigInteger value = BigInteger.valueOf(n[1]);
        if (isWide) {
            value = value.multiply(TWO.pow(32)).add(BigInteger.valueOf(n[2]));
            value = n[2] < 0 ? value.add(TWO.pow(32)) : value;
        }
        write(isWide, n[0], value);
        return before;
    }

    /** Of which width to, a and b are. */
    private static boolean[] widths(String name) {
        switch (name) {
            case "overMixed":
            case "timesMixed":
                return new boolean[] {true, true, false};
            case "restMixed":
                return new boolean[] {false, true, false};
            case "fit":
                return new boolean[] {false, true, true};
            case "widen":
            case "full":
                return new boolean[] {true, false, false};
            case "high":
            case "plain":
                return new boolean[] {true, true, true};
            default:
                boolean isWide = name.endsWith("Wide");
                return new boolean[] {isWide, isWide, isWide};
        }
    }

    private int act(String name, int[] n, boolean isGreater) {
        boolean[] widths = widths(name);
        cell(widths[0], n[0]);
        BigInteger x = cell(widths[1], n[1]);
        BigInteger y = n.length > 2 ? cell(widths[2], n[2]) : BigInteger.ZERO;
        return write(widths[0], n[0], made(name, widths[0], x, y, isGreater));
    }

    private static BigInteger made(String name, boolean isWide, BigInteger x, BigInteger y, boolean isGreater) {
        switch (name.replace("Wide", "").replace("Mixed", "")) {
            case "plus":
                return x.add(y);
            case "less":
                return x.subtract(y);
            case "times":
            case "full":
                return x.multiply(y);
            case "over":
                return goneRound(isWide, floor(x, divisor(y)));
            case "rest":
                return left(x, divisor(y));
            case "up":
                return x.add(BigInteger.ONE);
            case "down":
                return x.subtract(BigInteger.ONE);
            case "turn":
                return x.negate();
            case "size":
                return goneRound(isWide, x.abs());
            case "pick":
                return isGreater ? x.max(y) : x.min(y);
            case "fit":
            case "widen":
                return x;
            case "high":
                return floor(x.multiply(y), TWO.pow(64));
            case "plain":
                return goneRound(true, x.multiply(y));
            default:
                throw new AssertionError(name);
        }
    }

    private static BigInteger divisor(BigInteger y) {
        if (y.signum() == 0) {
            throw new Refused();
        }
        return y;
    }

    private boolean fits(boolean isWide, int[] n) {
        BigInteger x = cell(isWide, n[1]);
        BigInteger y = cell(isWide, n[2]);
        needArgument(n[0] >= 0 && n[0] <= 4);
        String[] acts = {"plus", "less", "times", "over", "turn"};
        try {
            return isInSpan(isWide, made(acts[n[0]], isWide, x, y, false));
        } catch (Refused e) {
            return false;
        }
    }

    private BigInteger half(int a, int b, boolean isHigh) {
        return made(isHigh ? "high" : "plain", true, cell(true, a), cell(true, b), false);
    }

    private BigInteger mean(boolean isWide, int[] n) {
        return floor(cell(isWide, n[0]).add(cell(isWide, n[1])), TWO);
    }

    // ---- ledger

    private Object callLedger(String name, int[] n) {
        switch (name) {
            case "enter":
                if (now.draft.size() == 20) {
                    throw new IllegalStateException();
                }
                step();
                now.draft.add(n[0]);
                return now.draft.size();
            case "strike":
                if (now.draft.isEmpty()) {
                    throw new Refused();
                }
                step();
                now.draft.remove(now.draft.size() - 1);
                return now.draft.size();
            case "book":
                return book();
            case "which":
                return goesOver();
            case "ledger":
                needArgument(n[0] >= 0 && n[0] <= 2);
                return n[0] == 0 ? now.balance : n[0] == 1 ? now.draft.size() : now.booked;
            case "draft":
                need(n[0] >= 0 && n[0] < now.draft.size());
                return now.draft.get(n[0]);
            default:
                return horner(n[0], n[1]);
        }
    }

    private int goesOver() {
        BigInteger sum = now.balance;
        for (int k = 0; k < now.draft.size(); k++) {
            sum = sum.add(BigInteger.valueOf(now.draft.get(k)));
            if (!isInSpan(false, sum)) {
                return k;
            }
        }
        return -1;
    }

    private int book() {
        if (goesOver() >= 0) {
            throw new Refused();
        }
        step();
        int count = now.draft.size();
        for (int amount : now.draft) {
            now.balance = now.balance.add(BigInteger.valueOf(amount));
        }
        now.booked += count;
        now.draft.clear();
        return count;
    }

    private int horner(int to, int base) {
        cell(false, to);
        needArgument(base >= -36 && base <= 36);
        BigInteger n = BigInteger.ZERO;
        for (int amount : now.draft) {
            n = inSpan(n.multiply(BigInteger.valueOf(base)));
            n = inSpan(n.add(BigInteger.valueOf(amount)));
        }
        return write(false, to, n);
    }

    private static BigInteger inSpan(BigInteger n) {
        if (!isInSpan(false, n)) {
            throw new Refused();
        }
        return n;
    }

    // ---- weeks, hours, pages, digits

    private static Object callCount(String name, int[] n) {
        switch (name) {
            case "weekday":
            case "weeks":
                return counted(n, 7, name.equals("weeks"));
            case "clock":
            case "daysOn":
                return counted(n, 1440, name.equals("daysOn"));
            case "page":
                return page(n);
            case "digits":
                needArgument(n[1] >= -10 && n[1] <= -2);
                return digits(n[0], n[1]);
            default:
                needArgument(n[1] >= -10 && n[1] <= -2 && n[2] >= 0 && n[2] <= 40);
                String all = digits(n[0], n[1]);
                return n[2] < all.length() ? all.charAt(all.length() - 1 - n[2]) - '0' : 0;
        }
    }

    private static BigInteger counted(int[] n, int by, boolean isQuotient) {
        needArgument(n[0] >= 0 && n[0] < by);
        BigInteger sum = BigInteger.valueOf(n[0]).add(BigInteger.valueOf(n[1]));
        return isQuotient ? floor(sum, BigInteger.valueOf(by)) : left(sum, BigInteger.valueOf(by));
    }

    private static BigInteger page(int[] n) {
        needArgument(n[1] >= 1 && n[1] <= 99 && n[2] >= 1 && n[2] <= 99 && n[3] >= 0 && n[3] <= 2);
        BigInteger place = BigInteger.valueOf(n[0]);
        BigInteger columns = BigInteger.valueOf(n[2]);
        BigInteger all = BigInteger.valueOf(n[1]).multiply(columns);
        if (n[3] == 0) {
            return floor(place, all);
        }
        return n[3] == 1 ? floor(left(place, all), columns) : left(place, columns);
    }

    private static String digits(int value, int base) {
        BigInteger by = BigInteger.valueOf(base);
        BigInteger n = BigInteger.valueOf(value);
        String text = "";
        while (n.signum() != 0) {
            BigInteger last = n.mod(by.negate());
            text = last + text;
            n = n.subtract(last).divide(by);
        }
        return text.isEmpty() ? "0" : text;
    }

    // ---- all

    private Object callHouse(String name, int[] n) {
        switch (name) {
            case "undo":
                if (steps.isEmpty()) {
                    throw new IllegalStateException();
                }
                now = steps.remove(steps.size() - 1);
                return steps.size();
            case "knock":
                return ++knocks;
            case "house":
                needArgument(n[0] >= 0 && n[0] <= 2);
                return n[0] == 0 ? steps.size() : n[0] == 1 ? refusals : knocks;
            case "isSound":
                // What the document asks there follows from what the acts do, for any cells.
                return true;
            default:
                return digest();
        }
    }

    private long digest() {
        List<String> row = new ArrayList<>();
        ask(row, "house", 0, 2);
        ask(row, "ledger", 0, 2);
        ask(row, "draft", 0, now.draft.size() - 1);
        row.add(answer("which"));
        for (int cell = 0; cell < 6; cell++) {
            int value = now.narrow[cell].intValueExact();
            row.add(answer("narrow", cell));
            row.add(answer("mean", cell, 0));
            for (int k = 0; k <= 3; k++) {
                row.add(answer("digit", value, -2, k));
            }
            row.add(answer("weekday", 3, value));
            for (int what = 0; what <= 2; what++) {
                row.add(answer("page", value, 7, 5, what));
            }
        }
        for (int cell = 0; cell < 6; cell++) {
            row.add(answer("wide", cell));
            row.add(answer("meanWide", cell, 0));
            row.add(answer("half", cell, 0, true));
            row.add(answer("half", cell, 0, false));
            row.add(String.valueOf(answer("product", cell, 0).length()));
        }
        for (int cell = 0; cell < 6; cell++) {
            for (int what = 0; what <= 4; what++) {
                row.add(answer("fits", what, cell, 1).equals("true") ? "1" : "0");
                row.add(answer("fitsWide", what, cell, 1).equals("true") ? "1" : "0");
            }
        }
        row.add("1");
        BigInteger d = BigInteger.valueOf(4912);
        for (String v : row) {
            d = d.multiply(BigInteger.valueOf(31)).add(new BigInteger(v));
        }
        return goneRound(true, d).longValueExact();
    }

    private void ask(List<String> row, String name, int first, int last) {
        for (int i = first; i <= last; i++) {
            row.add(answer(name, i));
        }
    }
}
