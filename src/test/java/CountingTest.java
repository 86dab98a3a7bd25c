/** Promises 47 to 53: weeks, hours, pages and digits. */
public final class CountingTest {
    private static final int LEAST = Integer.MIN_VALUE;
    private static final int GREATEST = Integer.MAX_VALUE;

    private CountingTest() {
    }

    public static void main(String[] args) {
        p47Weekday();
        p48Weeks();
        p49Clock();
        p50DaysOn();
        p51Page();
        p52Digits();
        p53Digit();
        Calls.end();
    }

    private static void due(Object want, String name, Object... args) {
        Edgecount house = Calls.drafted(1);
        String before = Calls.sight(house);
        Calls.due(house, want, name, args);
        Calls.same(name + " then what is seen", Calls.sight(house), before);
    }

    private static void wrong(String name, Object... args) {
        Calls.thrown(Calls.drafted(1), Calls.ARGUMENT, name, args);
    }

    private static void p47Weekday() {
        due(3, "weekday", 3, 0);
        due(6, "weekday", 3, -4);
        due(0, "weekday", 6, 1);
        due(0, "weekday", 0, -7);
        due(6, "weekday", 0, -1);
        due(0, "weekday", 6, GREATEST);
        due(5, "weekday", 0, LEAST);
        wrong("weekday", -1, 0);
        wrong("weekday", 7, 0);
        wrong("weekday", GREATEST, GREATEST);
    }

    private static void p48Weeks() {
        due(0, "weeks", 3, 3);
        due(1, "weeks", 3, 4);
        due(-1, "weeks", 3, -4);
        due(-1, "weeks", 0, -7);
        due(-2, "weeks", 0, -8);
        due(306783379, "weeks", 6, GREATEST);
        due(-306783379, "weeks", 0, LEAST);
        wrong("weeks", -1, 0);
        wrong("weeks", 7, 0);
        wrong("weeks", LEAST, LEAST);
    }

    private static void p49Clock() {
        due(10, "clock", 10, 0);
        due(0, "clock", 1439, 1);
        due(1430, "clock", 10, -20);
        due(0, "clock", 0, -1440);
        due(126, "clock", 1439, GREATEST);
        due(1312, "clock", 0, LEAST);
        wrong("clock", -1, 0);
        wrong("clock", 1440, 0);
        wrong("clock", GREATEST, GREATEST);
    }

    private static void p50DaysOn() {
        due(0, "daysOn", 1439, 0);
        due(1, "daysOn", 1439, 1);
        due(-1, "daysOn", 10, -20);
        due(-1, "daysOn", 0, -1440);
        due(1491309, "daysOn", 1439, GREATEST);
        due(-1491309, "daysOn", 0, LEAST);
        wrong("daysOn", -1, 0);
        wrong("daysOn", 1440, 0);
        wrong("daysOn", LEAST, LEAST);
    }

    private static void p51Page() {
        due(2, "page", 123, 10, 5, 0);
        due(4, "page", 123, 10, 5, 1);
        due(3, "page", 123, 10, 5, 2);
        due(-1, "page", -1, 10, 5, 0);
        due(9, "page", -1, 10, 5, 1);
        due(4, "page", -1, 10, 5, 2);
        due(-1, "page", -50, 10, 5, 0);
        due(0, "page", -50, 10, 5, 1);
        due(LEAST, "page", LEAST, 1, 1, 0);
        due(0, "page", LEAST, 1, 1, 1);
        due(219108, "page", GREATEST, 99, 99, 0);
        due(36, "page", LEAST, 99, 99, 1);
        due(98, "page", -1, 1, 99, 2);
        due(98, "page", -1, 99, 1, 1);
        for (int side : new int[] {0, 100, -1, LEAST, GREATEST}) {
            wrong("page", 5, side, 1, 0);
            wrong("page", 5, 1, side, 0);
        }
        for (int what : new int[] {-1, 3, LEAST, GREATEST}) {
            wrong("page", 5, 1, 1, what);
        }
        wrong("page", 5, 65536, 65536, 0);
    }

    private static void p52Digits() {
        due("110", "digits", 2, -2);
        due("11", "digits", -1, -2);
        due("25", "digits", -15, -10);
        due("190", "digits", 10, -10);
        due("9", "digits", 9, -10);
        due("10000000000000000000000000000000", "digits", LEAST, -2);
        due("110000000000000000000000000000011", "digits", GREATEST, -2);
        due("18268697767", "digits", GREATEST, -10);
        for (int base = -10; base <= -2; base++) {
            due("0", "digits", 0, base);
            due("1", "digits", 1, base);
            due("1" + (-base - 1), "digits", -1, base);
            due("10", "digits", base, base);
        }
        for (int base : new int[] {-11, -1, 0, 2, 10, LEAST, GREATEST}) {
            wrong("digits", 5, base);
        }
    }

    private static void p53Digit() {
        due(0, "digit", 2, -2, 0);
        due(1, "digit", 2, -2, 1);
        due(1, "digit", 2, -2, 2);
        due(0, "digit", 2, -2, 3);
        due(0, "digit", 2, -2, 40);
        due(5, "digit", -15, -10, 0);
        due(2, "digit", -15, -10, 1);
        due(1, "digit", LEAST, -2, 31);
        due(0, "digit", LEAST, -2, 32);
        due(1, "digit", GREATEST, -2, 32);
        due(0, "digit", 0, -7, 0);
        for (int base : new int[] {-11, -1, 0, 2, LEAST, GREATEST}) {
            wrong("digit", 5, base, 0);
        }
        for (int k : new int[] {-1, 41, LEAST, GREATEST}) {
            wrong("digit", 5, -2, k);
        }
    }
}
