/** Weeks, hours, pages and digits at their edges: a method for each sentence, quoted above it. */
public final class CountingEdgeTest {
    private static final int LEAST = Integer.MIN_VALUE;
    private static final int GREATEST = Integer.MAX_VALUE;
    private static final int[] FAR = {LEAST, LEAST + 1, -10081, -1441, -1440, -1439, -8, -7, -6, -1, 0, 1, 6, 7, 8,
        1439, 1440, 1441, GREATEST - 1, GREATEST};

    private CountingEdgeTest() {
    }

    public static void main(String[] args) {
        firstDayOfTheWeek();
        daysOnAreAnyNumber();
        weeksBehindNothing();
        minuteOfTheDay();
        minutesOnAreAnyNumber();
        daysBehindNothing();
        rowsAndColumns();
        whatOfAPage();
        placesOfAPage();
        pagesBehindNothing();
        digitsOfTheDocument();
        digitsOfZero();
        digitsOfLeast();
        digitsOfGreatest();
        digitsMakeTheNumber();
        digitsBesideEachPower();
        baseOfDigits();
        placeOfDigit();
        digitIsZeroIfItHasNone();
        Calls.end();
    }

    private static void wrong(String name, Object... args) {
        Calls.thrown(Calls.narrows(1), Calls.ARGUMENT, name, args);
    }

    private static void due(Object want, String name, Object... args) {
        Edgecount house = Calls.narrows(1);
        Calls.due(house, want, name, args);
        Calls.due(house, 1, "house", 0);
        Calls.due(house, 0, "house", 1);
    }

    /** Throws IllegalArgumentException if first is not 0 to 6 */
    private static void firstDayOfTheWeek() {
        for (String name : new String[] {"weekday", "weeks"}) {
            for (int first : new int[] {LEAST, -1, 7, 8, GREATEST}) {
                for (int days : new int[] {LEAST, -1, 0, 1, GREATEST}) {
                    wrong(name, first, days);
                }
            }
        }
        for (int first = 0; first <= 6; first++) {
            due(first, "weekday", first, 0);
            due(0, "weeks", first, 0);
        }
    }

    /** Returns REMAINDER of first + days by 7; days: any number */
    private static void daysOnAreAnyNumber() {
        for (int first = 0; first <= 6; first++) {
            for (int days : FAR) {
                long sum = (long) first + days;
                long rest = (sum % 7 + 7) % 7;
                due(rest, "weekday", first, days);
                due((sum - rest) / 7, "weeks", first, days);
            }
        }
        // first + days is not in the SPAN here.
        due(0, "weekday", 6, GREATEST);
        due(306783379, "weeks", 6, GREATEST);
        due(2, "weekday", 1, GREATEST);
        due(306783378, "weeks", 1, GREATEST);
        due(5, "weekday", 0, LEAST);
        due(-306783379, "weeks", 0, LEAST);
    }

    /** Returns QUOTIENT of first + days by 7. */
    private static void weeksBehindNothing() {
        due(-1, "weeks", 0, -1);
        due(6, "weekday", 0, -1);
        due(-1, "weeks", 0, -7);
        due(0, "weekday", 0, -7);
        due(-2, "weeks", 0, -8);
        due(0, "weeks", 6, -6);
        due(0, "weekday", 6, -6);
        due(-1, "weeks", 6, -7);
        due(6, "weekday", 6, -7);
        due(0, "weeks", 0, 6);
        due(1, "weeks", 0, 7);
    }

    /** Throws IllegalArgumentException if minute is not 0 to 1439 */
    private static void minuteOfTheDay() {
        for (String name : new String[] {"clock", "daysOn"}) {
            for (int minute : new int[] {LEAST, -1, 1440, 1441, GREATEST}) {
                for (int away : new int[] {LEAST, -1, 0, 1, GREATEST}) {
                    wrong(name, minute, away);
                }
            }
        }
        for (int minute : new int[] {0, 1, 719, 720, 1438, 1439}) {
            due(minute, "clock", minute, 0);
            due(0, "daysOn", minute, 0);
        }
    }

    /** Returns REMAINDER of minute + away by 1440; away: any number */
    private static void minutesOnAreAnyNumber() {
        for (int minute : new int[] {0, 1, 7, 720, 1438, 1439}) {
            for (int away : FAR) {
                long sum = (long) minute + away;
                long rest = (sum % 1440 + 1440) % 1440;
                due(rest, "clock", minute, away);
                due((sum - rest) / 1440, "daysOn", minute, away);
            }
        }
        // minute + away is not in the SPAN here.
        due(126, "clock", 1439, GREATEST);
        due(1491309, "daysOn", 1439, GREATEST);
        due(128, "clock", 1, GREATEST);
        due(1312, "clock", 0, LEAST);
        due(-1491309, "daysOn", 0, LEAST);
    }

    /** Returns QUOTIENT of minute + away by 1440. */
    private static void daysBehindNothing() {
        due(-1, "daysOn", 0, -1);
        due(1439, "clock", 0, -1);
        due(-1, "daysOn", 0, -1440);
        due(0, "clock", 0, -1440);
        due(-2, "daysOn", 0, -1441);
        due(0, "daysOn", 1439, -1439);
        due(-1, "daysOn", 1439, -1440);
        due(0, "daysOn", 1438, 1);
        due(1, "daysOn", 1439, 1);
        due(0, "clock", 1439, 1);
    }

    /** Throws IllegalArgumentException if rows or columns is not 1 to 99 */
    private static void rowsAndColumns() {
        for (int side : new int[] {LEAST, -1, 0, 100, 65536, GREATEST}) {
            for (int what = 0; what <= 2; what++) {
                wrong("page", 5, side, 1, what);
                wrong("page", 5, 1, side, what);
                wrong("page", 5, side, side, what);
            }
        }
        due(5, "page", 5, 1, 1, 0);
        due(0, "page", 5, 99, 99, 0);
        due(1, "page", 9801, 99, 99, 0);
        due(0, "page", 9800, 99, 99, 0);
        due(98, "page", 9800, 99, 99, 1);
        due(98, "page", 9800, 99, 99, 2);
    }

    /** or what not 0 to 2 */
    private static void whatOfAPage() {
        for (int what : new int[] {LEAST, -1, 3, GREATEST}) {
            wrong("page", 5, 1, 1, what);
            wrong("page", 5, 99, 99, what);
        }
    }

    /** 0 the page ..; 1 the row on it ..; 2 the column ..; place: any number */
    private static void placesOfAPage() {
        int[] sides = {1, 2, 7, 98, 99};
        for (int rows : sides) {
            for (int columns : sides) {
                for (int place : FAR) {
                    onPage(place, rows, columns);
                }
            }
        }
        due(LEAST, "page", LEAST, 1, 1, 0);
        due(GREATEST, "page", GREATEST, 1, 1, 0);
        due(-219109, "page", LEAST, 99, 99, 0);
        due(219108, "page", GREATEST, 99, 99, 0);
    }

    private static void onPage(int place, int rows, int columns) {
        long all = rows * columns;
        long onIt = (place % all + all) % all;
        due((place - onIt) / all, "page", place, rows, columns, 0);
        due(onIt / columns, "page", place, rows, columns, 1);
        due(onIt % columns, "page", place, rows, columns, 2);
    }

    private static void pagesBehindNothing() {
        due(-1, "page", -1, 7, 5, 0);
        due(6, "page", -1, 7, 5, 1);
        due(4, "page", -1, 7, 5, 2);
        due(-1, "page", -35, 7, 5, 0);
        due(0, "page", -35, 7, 5, 1);
        due(0, "page", -35, 7, 5, 2);
        due(-2, "page", -36, 7, 5, 0);
        due(6, "page", -36, 7, 5, 1);
        due(4, "page", -36, 7, 5, 2);
    }

    /** In base -2, 2 is 110 and -1 is 11. */
    private static void digitsOfTheDocument() {
        due("110", "digits", 2, -2);
        due("11", "digits", -1, -2);
        due(0, "digit", 2, -2, 0);
        due(1, "digit", 2, -2, 1);
        due(1, "digit", 2, -2, 2);
        due(1, "digit", -1, -2, 0);
        due(1, "digit", -1, -2, 1);
        due(0, "digit", -1, -2, 2);
    }

    /** for n = 0 it is one 0 */
    private static void digitsOfZero() {
        for (int base = -10; base <= -2; base++) {
            due("0", "digits", 0, base);
            for (int k = 0; k <= 40; k++) {
                due(0, "digit", 0, base, k);
            }
        }
    }

    private static void digitsAre(int value, int base, String want) {
        due(want, "digits", value, base);
        for (int k = 0; k <= 40; k++) {
            int digit = k < want.length() ? want.charAt(want.length() - 1 - k) - '0' : 0;
            due(digit, "digit", value, base, k);
        }
    }

    private static void digitsOfLeast() {
        digitsAre(LEAST, -10, "3953524452");
        digitsAre(LEAST, -9, "6581824387");
        digitsAre(LEAST, -8, "160000000000");
        digitsAre(LEAST, -7, "105643362505");
        digitsAre(LEAST, -6, "15013044150144");
        digitsAre(LEAST, -5, "22400331010402");
        digitsAre(LEAST, -4, "2000000000000000");
        digitsAre(LEAST, -3, "21210100010222020211");
        digitsAre(LEAST, -2, "10000000000000000000000000000000");
    }

    private static void digitsOfGreatest() {
        digitsAre(GREATEST, -10, "18268697767");
        digitsAre(GREATEST, -9, "14510286721");
        digitsAre(GREATEST, -8, "20000000017");
        digitsAre(GREATEST, -7, "1613245526211");
        digitsAre(GREATEST, -6, "1003132010031");
        digitsAre(GREATEST, -5, "144101334141112");
        digitsAre(GREATEST, -4, "12000000000000013");
        digitsAre(GREATEST, -3, "110221200121221111101");
        digitsAre(GREATEST, -2, "110000000000000000000000000000011");
    }

    /** the row of numbers 0 to -BASE - 1 .. so that n is the sum of DIGIT k * BASE^k; without 0 as its first one */
    private static void digitsMakeTheNumber() {
        for (int base = -10; base <= -2; base++) {
            for (int value = -2 * base * base; value <= 2 * base * base; value++) {
                makes(value, base);
            }
            for (int value : new int[] {LEAST, LEAST + 1, -1073741824, -65536, 65535, 1073741823, GREATEST - 1, GREATEST}) {
                makes(value, base);
            }
        }
    }

    private static void makes(int value, int base) {
        String text = new Edgecount().digits(value, base);
        long sum = 0;
        boolean isRow = text.length() > 0;
        for (int i = 0; i < text.length(); i++) {
            int digit = text.charAt(i) - '0';
            isRow = isRow && digit >= 0 && digit < -base;
            sum = sum * base + digit;
        }
        Calls.same("what " + text + " makes in base " + base, sum, value);
        Calls.same("digits of " + value + " in base " + base + " are a row of them", isRow, true);
        Calls.same("digits of " + value + " in base " + base + " begin with 0", text.charAt(0) == '0', value == 0);
    }

    /** A power of BASE has as many 0s behind a 1; one less has one DIGIT or two more or fewer. */
    private static void digitsBesideEachPower() {
        for (int base = -10; base <= -2; base++) {
            long power = 1;
            String zeros = "";
            while (power >= LEAST && power <= GREATEST) {
                due("1" + zeros, "digits", (int) power, base);
                if (power - 1 >= LEAST) {
                    makes((int) power - 1, base);
                }
                power *= base;
                zeros += "0";
            }
        }
    }

    /** Throws IllegalArgumentException if base is not -10 to -2 */
    private static void baseOfDigits() {
        for (int base : new int[] {LEAST, -37, -11, -1, 0, 1, 2, 10, GREATEST}) {
            for (int value : new int[] {LEAST, -1, 0, 1, GREATEST}) {
                wrong("digits", value, base);
                wrong("digit", value, base, 0);
                wrong("digit", value, base, 40);
                wrong("digit", value, base, 41);
            }
        }
        due("9", "digits", 9, -10);
        due("190", "digits", 10, -10);
        due("19", "digits", -1, -10);
        due("1", "digits", 1, -2);
    }

    /** or k not 0 to 40 */
    private static void placeOfDigit() {
        for (int base = -10; base <= -2; base++) {
            for (int k : new int[] {LEAST, -1, 41, GREATEST}) {
                wrong("digit", 5, base, k);
            }
        }
    }

    /** Returns DIGIT k, 0 if it has none. */
    private static void digitIsZeroIfItHasNone() {
        due(1, "digit", GREATEST, -2, 32);
        due(0, "digit", GREATEST, -2, 33);
        due(0, "digit", GREATEST, -2, 40);
        due(1, "digit", LEAST, -2, 31);
        due(0, "digit", LEAST, -2, 32);
        due(0, "digit", LEAST, -2, 40);
        due(0, "digit", 1, -10, 1);
        due(0, "digit", 1, -10, 40);
    }
}
