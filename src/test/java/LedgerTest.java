/** Promises 40 to 46: the ledger. */
public final class LedgerTest {
    private static final int LEAST = Integer.MIN_VALUE;
    private static final int GREATEST = Integer.MAX_VALUE;
    private static final int[] FIRST = {0};

    private LedgerTest() {
    }

    public static void main(String[] args) {
        p40Enter();
        p41Strike();
        p42Book();
        p43Which();
        p44Ledger();
        p45Draft();
        p46Horner();
        Calls.end();
    }

    private static void p40Enter() {
        Edgecount house = new Edgecount();
        for (int k = 0; k < 20; k++) {
            Calls.step(house, k + 1, "enter", k % 2 == 0 ? LEAST : k);
        }
        Calls.due(house, 20, "ledger", 1);
        Calls.due(house, LEAST, "draft", 0);
        Calls.due(house, 19, "draft", 19);
        Calls.due(house, 0, "ledger", 0);
        Calls.thrown(house, Calls.STATE, "enter", 0);
        Calls.thrown(house, Calls.STATE, "enter", GREATEST);
        Calls.step(house, 19, "strike");
        Calls.step(house, 20, "enter", -9);
        Calls.due(house, -9, "draft", 19);
        Calls.due(house, 7, "undo");
        Calls.due(house, 19, "ledger", 1);
    }

    private static void p41Strike() {
        Edgecount house = Calls.drafted(5, -9);
        Calls.step(house, 1, "strike");
        Calls.due(house, 5, "draft", 0);
        Calls.thrown(house, Calls.INDEX, "draft", 1);
        Calls.step(house, 0, "strike");
        Calls.refused(house, "strike");
        Calls.refused(house, "strike");
        Calls.due(house, 3, "undo");
        Calls.due(house, 2, "undo");
        Calls.due(house, -9, "draft", 1);
        Calls.due(house, 2, "house", 1);
    }

    private static void p42Book() {
        Edgecount house = Calls.drafted(GREATEST, -1, 1);
        Calls.step(house, 3, "book");
        Calls.due(house, GREATEST, "ledger", 0);
        Calls.due(house, 0, "ledger", 1);
        Calls.due(house, 3, "ledger", 2);
        Calls.step(house, 0, "book");
        Calls.step(house, 1, "enter", 1);
        Calls.step(house, 2, "enter", -5);
        Calls.refused(house, "book");
        Calls.due(house, 2, "ledger", 1);
        house.strike();
        house.strike();
        house.enter(-4);
        Calls.step(house, 1, "book");
        Calls.due(house, GREATEST - 4, "ledger", 0);
        Calls.due(house, 4, "ledger", 2);
        Calls.due(house, 7, "undo");
        Calls.due(house, GREATEST, "ledger", 0);
        Calls.due(house, 3, "ledger", 2);
        Calls.due(house, -4, "draft", 0);
        Edgecount least = Calls.drafted(LEAST, GREATEST, -GREATEST);
        Calls.step(least, 3, "book");
        Calls.due(least, LEAST, "ledger", 0);
        least.enter(-1);
        Calls.refused(least, "book");
    }

    private static void p43Which() {
        Calls.due(new Edgecount(), -1, "which");
        Calls.due(Calls.drafted(GREATEST), -1, "which");
        Calls.due(Calls.drafted(GREATEST, 1), 1, "which");
        Calls.due(Calls.drafted(GREATEST, 1, -5, GREATEST), 1, "which");
        Calls.due(Calls.drafted(GREATEST, -5, 5, 1), 3, "which");
        Calls.due(Calls.drafted(LEAST, -1), 1, "which");
        Edgecount house = Calls.drafted(LEAST);
        house.book();
        house.enter(-1);
        String before = Calls.sight(house);
        Calls.due(house, 0, "which");
        Calls.same("which then what is seen", Calls.sight(house), before);
    }

    private static void p44Ledger() {
        Edgecount house = Calls.drafted(-3, -4);
        house.book();
        house.enter(8);
        Calls.due(house, -7, "ledger", 0);
        Calls.due(house, 1, "ledger", 1);
        Calls.due(house, 2, "ledger", 2);
        for (int what : new int[] {-1, 3, LEAST, GREATEST}) {
            Calls.thrown(house, Calls.ARGUMENT, "ledger", what);
        }
    }

    private static void p45Draft() {
        Edgecount house = Calls.drafted(LEAST, -9, GREATEST);
        Calls.due(house, LEAST, "draft", 0);
        Calls.due(house, -9, "draft", 1);
        Calls.due(house, GREATEST, "draft", 2);
        Calls.due(house, 0, "house", 1);
        for (int k : new int[] {-1, 3, 19, 20, LEAST, GREATEST}) {
            Calls.thrown(house, Calls.INDEX, "draft", k);
        }
        Edgecount booked = Calls.drafted(7);
        booked.book();
        Calls.thrown(booked, Calls.INDEX, "draft", 0);
    }

    private static void p46Horner() {
        hornerWrites(123, Calls.drafted(1, 2, 3), 10);
        hornerWrites(83, Calls.drafted(1, 2, 3), -10);
        hornerWrites(3, Calls.drafted(1, 2, 3), 0);
        hornerWrites(6, Calls.drafted(1, 2, 3), 1);
        hornerWrites(1371, Calls.drafted(1, 2, 3), 36);
        hornerWrites(1227, Calls.drafted(1, 2, 3), -36);
        hornerWrites(0, new Edgecount(), 5);
        hornerWrites(LEAST, Calls.drafted(LEAST), 36);
        hornerWrites(LEAST, Calls.drafted(1073741824, 0), -2);
        hornerRefuses(Calls.drafted(LEAST, 0), -1);
        // The product goes over, although the sum would come back.
        hornerRefuses(Calls.drafted(1073741824, -1), 2);
        // The sum goes over, although the next product would come back.
        hornerRefuses(Calls.drafted(GREATEST, 1, 0), 1);
        hornerRefuses(Calls.drafted(2147483000, 648, 7), 1);
        Calls.cellsOnly("horner", FIRST, 0, 5);
        for (int base : new int[] {-37, 37, LEAST, GREATEST}) {
            Calls.thrown(Calls.drafted(1), Calls.ARGUMENT, "horner", 0, base);
            Calls.thrown(Calls.drafted(1), Calls.INDEX, "horner", 6, base);
        }
    }

    private static void hornerWrites(int want, Edgecount house, int base) {
        int entries = house.ledger(1);
        Calls.step(house, 1, "horner", 5, base);
        Calls.due(house, want, "narrow", 5);
        Calls.due(house, entries, "ledger", 1);
        int left = house.house(0) - 1;
        Calls.due(house, left, "undo");
        Calls.due(house, 0, "narrow", 5);
        Calls.due(house, entries, "ledger", 1);
    }

    private static void hornerRefuses(Edgecount house, int base) {
        Calls.refused(house, "horner", 5, base);
    }
}
