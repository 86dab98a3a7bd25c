/** Promise 58 at its edges: the numbers that come into d, counted here out of what the face tells. */
public final class DigestEdgeTest {
    private static final int LEAST = Integer.MIN_VALUE;
    private static final int GREATEST = Integer.MAX_VALUE;

    private DigestEdgeTest() {
    }

    public static void main(String[] args) {
        newHouse();
        stepsRefusalsKnocks();
        entriesOfTheDraft();
        entryThatGoesOver();
        balanceAndBooked();
        narrowCells();
        wideCells();
        signsOfTheProduct();
        whatFits();
        orderOfCells();
        changesNothing();
        Calls.end();
    }

    private static long mixed(long d, long v) {
        return d * 31 + v;
    }

    /** Some 200 calls, so that one house is looked at twice at most: it has 512. */
    private static void check(Edgecount house) {
        long want = counted(house);
        Calls.due(house, want, "digest");
        Calls.due(house, want, "digest");
    }

    private static long counted(Edgecount house) {
        long d = 4912;
        for (int what = 0; what <= 2; what++) {
            d = mixed(d, house.house(what));
        }
        for (int what = 0; what <= 2; what++) {
            d = mixed(d, house.ledger(what));
        }
        for (int k = 0; k < house.ledger(1); k++) {
            d = mixed(d, house.draft(k));
        }
        d = mixed(d, house.which());
        for (int cell = 0; cell <= 5; cell++) {
            int value = house.narrow(cell);
            d = mixed(mixed(d, value), house.mean(cell, 0));
            for (int k = 0; k <= 3; k++) {
                d = mixed(d, house.digit(value, -2, k));
            }
            d = mixed(d, house.weekday(3, value));
            for (int what = 0; what <= 2; what++) {
                d = mixed(d, house.page(value, 7, 5, what));
            }
        }
        for (int cell = 0; cell <= 5; cell++) {
            d = mixed(mixed(d, house.wide(cell)), house.meanWide(cell, 0));
            d = mixed(mixed(d, house.half(cell, 0, true)), house.half(cell, 0, false));
            d = mixed(d, house.product(cell, 0).length());
        }
        for (int a = 0; a <= 5; a++) {
            for (int what = 0; what <= 4; what++) {
                d = mixed(d, house.fits(what, a, 1) ? 1 : 0);
                d = mixed(d, house.fitsWide(what, a, 1) ? 1 : 0);
            }
        }
        return mixed(d, house.isSound() ? 1 : 0);
    }

    private static void newHouse() {
        check(new Edgecount());
    }

    /** house() of 0 to 2 */
    private static void stepsRefusalsKnocks() {
        for (int often = 0; often < 4; often++) {
            check(used(often, often, often));
            check(used(often, often, often + 1));
            check(used(often, often + 1, often));
            check(used(often + 5, often, often));
        }
        Edgecount house = used(4, 3, 2);
        house.undo();
        check(house);
    }

    private static Edgecount used(int steps, int refusals, int knocks) {
        Edgecount house = new Edgecount();
        for (int often = 0; often < steps; often++) {
            house.put(often % 6, often);
        }
        for (int often = 0; often < refusals; often++) {
            house.strike();
        }
        for (int often = 0; often < knocks; often++) {
            house.knock();
        }
        return house;
    }

    /** each ENTRY of the DRAFT: none, one, 20 */
    private static void entriesOfTheDraft() {
        for (int count = 0; count <= 20; count++) {
            check(drafted(count));
        }
        Edgecount house = drafted(20);
        house.strike();
        check(house);
        house.undo();
        check(house);
    }

    private static Edgecount drafted(int count) {
        Edgecount house = new Edgecount();
        for (int k = 0; k < count; k++) {
            house.enter(k % 2 == 0 ? LEAST + k : GREATEST - k);
        }
        return house;
    }

    /** which() */
    private static void entryThatGoesOver() {
        check(Calls.drafted(GREATEST, 1));
        check(Calls.drafted(LEAST, 5, LEAST, GREATEST));
        Edgecount house = Calls.drafted(GREATEST);
        house.book();
        house.enter(1);
        check(house);
    }

    /** ledger() of 0 to 2 */
    private static void balanceAndBooked() {
        for (int amount : new int[] {LEAST, -1, 1, GREATEST}) {
            Edgecount house = Calls.drafted(amount, 0, 0);
            house.book();
            house.enter(3);
            check(house);
        }
    }

    /** NARROW cell by NARROW cell */
    private static void narrowCells() {
        check(Calls.narrows(LEAST, LEAST + 1, -1, 1, GREATEST - 1, GREATEST));
        check(Calls.narrows(GREATEST, GREATEST, LEAST, GREATEST - 2, GREATEST - 3, GREATEST - 4));
        check(Calls.narrows(-1, -2, -3, -4, -5, -6));
        check(Calls.narrows(5, 7, 34, 35, 36, 15));
        check(Calls.narrows(-5, -7, -34, -35, -36, 16));
    }

    /** WIDE cell by WIDE cell */
    private static void wideCells() {
        check(Calls.wides(Long.MIN_VALUE, Long.MIN_VALUE + 1, -1, 1, Long.MAX_VALUE - 1, Long.MAX_VALUE));
        check(Calls.wides(Long.MAX_VALUE, Long.MIN_VALUE, 4294967296L, -4294967296L, 2147483648L, 4294967295L));
        check(Calls.wides(-1, 3, -4294967295L, 67280421310721L, 274177, Long.MIN_VALUE));
    }

    /** how many signs the text has (a "-" is one of them) */
    private static void signsOfTheProduct() {
        Edgecount house = Calls.wides(-1, 0, 1, 9, 10, -10);
        check(house);
        long ofMinusOne = house.digest();
        // Two products each as long as the other's without its "-": what is counted differs.
        Edgecount other = Calls.wides(1, 0, -1, -9, -10, 10);
        check(other);
        Calls.same("digests of turned cells are the same", other.digest() == ofMinusOne, false);
        check(Calls.wides(Long.MIN_VALUE, Long.MAX_VALUE, Long.MIN_VALUE, -1, 1, 0));
        check(Calls.wides(-9, 1, 11, 111, 1111, 11111));
    }

    /** 1 if fits() of what, a and the cell 1, otherwise 0, then 1 if fitsWide() of the same */
    private static void whatFits() {
        int[] edges = {LEAST, -1, 0, 1, GREATEST, 46341};
        for (int second : edges) {
            Edgecount house = Calls.narrows(LEAST, second, -1, 0, GREATEST, 46341);
            house.putWide(0, LEAST, 0);
            house.putWide(1, second, second);
            house.putWide(2, -1, -1);
            house.putWide(4, GREATEST, -1);
            house.putWide(5, 1, 0);
            check(house);
        }
    }

    /** from 0 to 5: each two cells changed with one another tell another number. */
    private static void orderOfCells() {
        for (int one = 0; one <= 5; one++) {
            for (int other = one + 1; other <= 5; other++) {
                Edgecount house = Calls.narrows(1, 2, 3, 4, 5, 6);
                long before = house.digest();
                int value = house.put(one, house.narrow(other));
                house.put(other, value);
                check(house);
                Calls.same("digests with cells changed are the same", house.digest() == before, false);
            }
        }
    }

    private static void changesNothing() {
        Edgecount house = Calls.narrows(LEAST, 0, 0, 7);
        house.enter(4);
        house.strike();
        house.up(0, 0);
        String before = Calls.sight(house);
        house.digest();
        Calls.same("digest then what is seen", Calls.sight(house), before);
        Calls.due(house, 6, "undo");
        Calls.due(house, LEAST, "narrow", 0);
    }
}
