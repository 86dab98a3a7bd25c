import java.util.Arrays;

/** What the document says of the ledger, at its edges: a method for each sentence, quoted above it. */
public final class LedgerEdgeTest {
    private static final int LEAST = Integer.MIN_VALUE;
    private static final int GREATEST = Integer.MAX_VALUE;
    private static final int MOST = 20;
    private static final int NONE = -1;

    private LedgerEdgeTest() {
    }

    public static void main(String[] args) {
        draftHasTwentyAtMost();
        fullDraftChangesNothing();
        entriesStandInTheirOrder();
        strikesToTheLast();
        emptyDraftIsRefusedToStrike();
        emptyDraftIsBooked();
        emptyDraftGoesNowhereOver();
        fullDraftIsBooked();
        balanceAtBothEnds();
        eachIsAddedToWhatCame();
        firstEntryGoesOver();
        lastEntryGoesOver();
        firstOfSeveralGoesOver();
        refusedBookKeepsAll();
        whichIsAsBookWouldTell();
        bookedAreCounted();
        bookedPastTwenty();
        draftThrowsIfThereIsNone();
        draftAfterStrikeBookAndUndo();
        ledgerTakesZeroToTwo();
        hornerOfEmptyDraft();
        hornerRefusesAProduct();
        hornerRefusesASum();
        hornerAtBothEnds();
        hornerOfTwenty();
        hornerKeepsTheDraft();
        hornerTakesBases();
        hornerCellAheadOfBase();
        Calls.end();
    }

    private static int[] row(int length, int each, int last) {
        int[] amounts = new int[length];
        Arrays.fill(amounts, each);
        amounts[length - 1] = last;
        return amounts;
    }

    /** The DRAFT has at most 20 ENTRIES; enter throws IllegalStateException if there are 20. */
    private static void draftHasTwentyAtMost() {
        Edgecount house = new Edgecount();
        for (int k = 1; k <= MOST; k++) {
            Calls.step(house, k, "enter", k % 3 == 0 ? LEAST : GREATEST);
        }
        Calls.thrown(house, Calls.STATE, "enter", 0);
        Calls.due(house, 19, "strike");
        Calls.step(house, MOST, "enter", 7);
        Calls.thrown(house, Calls.STATE, "enter", 7);
    }

    /** A method that throws an exception changes nothing: what the STEPS bring back is as it was, too. */
    private static void fullDraftChangesNothing() {
        Edgecount house = Calls.drafted(row(MOST, 1, 2));
        house.strike();
        house.enter(3);
        Calls.thrown(house, Calls.STATE, "enter", -9);
        Calls.due(house, 3, "draft", 19);
        Calls.due(house, 7, "undo");
        Calls.due(house, 19, "ledger", 1);
        Calls.due(house, 6, "undo");
        Calls.due(house, 2, "draft", 19);
        Calls.thrown(house, Calls.STATE, "enter", 3);
        Calls.due(house, MOST, "book");
        Calls.due(house, 1, "enter", 3);
    }

    /** from 0 on in the order in which they came (none at first) */
    private static void entriesStandInTheirOrder() {
        Edgecount house = new Edgecount();
        Calls.due(house, 0, "ledger", 1);
        Calls.thrown(house, Calls.INDEX, "draft", 0);
        for (int k = 0; k < MOST; k++) {
            house.enter(k == 7 ? LEAST : k == 8 ? GREATEST : -k);
        }
        for (int k = 0; k < MOST; k++) {
            Calls.due(house, k == 7 ? LEAST : k == 8 ? GREATEST : -k, "draft", k);
        }
    }

    /** The last ENTRY goes. Returns how many are left */
    private static void strikesToTheLast() {
        Edgecount house = new Edgecount();
        for (int k = 0; k < MOST; k++) {
            house.enter(k);
        }
        for (int left = MOST - 1; left >= 0; left--) {
            Calls.step(house, left, "strike");
            Calls.due(house, left, "ledger", 1);
            Calls.due(house, Calls.INDEX, "draft", left);
            if (left > 0) {
                Calls.due(house, left - 1, "draft", left - 1);
            }
        }
    }

    /** REFUSED if there is none. */
    private static void emptyDraftIsRefusedToStrike() {
        Calls.refused(new Edgecount(), "strike");
        Edgecount house = Calls.drafted(5);
        house.strike();
        Calls.refused(house, "strike");
        house.enter(6);
        house.book();
        Calls.refused(house, "strike");
        Calls.due(house, 2, "house", 1);
    }

    /** All of the DRAFT is BOOKED: of an empty one that is 0, and a STEP (also if it changed nothing). */
    private static void emptyDraftIsBooked() {
        Edgecount house = new Edgecount();
        Calls.step(house, 0, "book");
        Calls.due(house, 0, "ledger", 0);
        Calls.due(house, 0, "ledger", 2);
        Calls.due(house, 0, "undo");
        for (int edge : new int[] {LEAST, GREATEST}) {
            Edgecount full = Calls.drafted(edge);
            Calls.step(full, 1, "book");
            Calls.step(full, 0, "book");
            Calls.due(full, edge, "ledger", 0);
            Calls.due(full, 1, "ledger", 2);
        }
    }

    /** NONE if none does. */
    private static void emptyDraftGoesNowhereOver() {
        Calls.due(new Edgecount(), NONE, "which");
        for (int edge : new int[] {LEAST, GREATEST}) {
            Edgecount house = Calls.drafted(edge);
            Calls.due(house, NONE, "which");
            house.book();
            Calls.due(house, NONE, "which");
            house.enter(0);
            Calls.due(house, NONE, "which");
        }
    }

    /** All of the DRAFT is BOOKED; the DRAFT is empty then. */
    private static void fullDraftIsBooked() {
        Edgecount house = Calls.drafted(row(MOST, 107374182, 107374182 + 7));
        Calls.due(house, NONE, "which");
        Calls.step(house, MOST, "book");
        Calls.due(house, GREATEST, "ledger", 0);
        Calls.due(house, 0, "ledger", 1);
        Calls.due(house, MOST, "ledger", 2);
        Calls.thrown(house, Calls.INDEX, "draft", 0);
    }

    /** The BALANCE is a number of the SPAN of NARROW, 0 at first. */
    private static void balanceAtBothEnds() {
        Calls.due(new Edgecount(), 0, "ledger", 0);
        Edgecount upper = Calls.drafted(GREATEST - 1, 1);
        Calls.step(upper, 2, "book");
        Calls.due(upper, GREATEST, "ledger", 0);
        upper.enter(1);
        Calls.due(upper, 0, "which");
        Calls.refused(upper, "book");
        Edgecount lower = Calls.drafted(LEAST + 1, -1);
        Calls.step(lower, 2, "book");
        Calls.due(lower, LEAST, "ledger", 0);
        lower.enter(-1);
        Calls.due(lower, 0, "which");
        Calls.refused(lower, "book");
        lower.strike();
        lower.enter(GREATEST);
        Calls.step(lower, 1, "book");
        Calls.due(lower, -1, "ledger", 0);
    }

    /** ENTRY by ENTRY is added to the BALANCE, each to what came of those ahead of it. */
    private static void eachIsAddedToWhatCame() {
        Edgecount house = Calls.drafted(GREATEST, -5, 5, LEAST, LEAST + 1, GREATEST, 1);
        Calls.due(house, NONE, "which");
        Calls.step(house, 7, "book");
        Calls.due(house, 0, "ledger", 0);
        Edgecount other = Calls.drafted(GREATEST, 1, -5);
        // In all that would be in the SPAN, but not on the way.
        Calls.due(other, 1, "which");
        Calls.refused(other, "book");
    }

    /** The first ENTRY with which that would not be in the SPAN is the one that GOES OVER: the ENTRY 0. */
    private static void firstEntryGoesOver() {
        int[][] rows = {{GREATEST, 1, -1}, {LEAST, -1, 1}, {1, GREATEST, -5}, {-1, LEAST, 5}, {GREATEST, GREATEST, 0}};
        for (int[] row : rows) {
            Edgecount house = Calls.drafted(row[0]);
            house.book();
            house.enter(row[1]);
            house.enter(row[2]);
            Calls.due(house, 0, "which");
            Calls.refused(house, "book");
            Calls.due(house, row[0], "ledger", 0);
        }
    }

    /** The same: the last ENTRY, of 20 too. */
    private static void lastEntryGoesOver() {
        Edgecount upper = Calls.drafted(row(MOST, 107374182, 107374182 + 8));
        Calls.due(upper, 19, "which");
        Calls.refused(upper, "book");
        upper.strike();
        Calls.due(upper, NONE, "which");
        Calls.step(upper, 19, "book");
        Edgecount lower = Calls.drafted(row(MOST, -107374182, -107374182 - 9));
        Calls.due(lower, 19, "which");
        Calls.refused(lower, "book");
        Calls.due(Calls.drafted(row(MOST, -107374182, -107374182 - 8)), NONE, "which");
    }

    /** The first ENTRY .. is the one that GOES OVER, whatever comes behind it. */
    private static void firstOfSeveralGoesOver() {
        Calls.due(Calls.drafted(1, GREATEST, GREATEST, LEAST, LEAST), 1, "which");
        Calls.due(Calls.drafted(1, GREATEST, LEAST, 5), 1, "which");
        Calls.due(Calls.drafted(-1, -1, LEAST, GREATEST), 2, "which");
        Calls.due(Calls.drafted(0, 0, 0, GREATEST, 1, LEAST, LEAST), 4, "which");
        // Going round once and back again must not hide it.
        Calls.due(Calls.drafted(GREATEST, GREATEST, 2, 0), 1, "which");
        Calls.due(Calls.drafted(row(MOST, GREATEST, GREATEST)), 1, "which");
        Calls.due(Calls.drafted(row(MOST, LEAST, LEAST)), 1, "which");
    }

    /** REFUSED if one GOES OVER: nothing of it is BOOKED, not even what stands ahead of that ENTRY. */
    private static void refusedBookKeepsAll() {
        Edgecount house = Calls.drafted(3);
        house.book();
        house.enter(4);
        house.enter(GREATEST);
        house.enter(-5);
        Calls.refused(house, "book");
        Calls.due(house, 3, "ledger", 0);
        Calls.due(house, 3, "ledger", 1);
        Calls.due(house, 1, "ledger", 2);
        Calls.due(house, 4, "draft", 0);
        Calls.due(house, GREATEST, "draft", 1);
        Calls.due(house, -5, "draft", 2);
        Calls.refused(house, "book");
        Calls.due(house, 2, "house", 1);
    }

    /** Returns the number of the ENTRY that GOES OVER, if the DRAFT were BOOKED now */
    private static void whichIsAsBookWouldTell() {
        Edgecount house = Calls.drafted(GREATEST);
        house.enter(1);
        String before = Calls.sight(house);
        Calls.due(house, 1, "which");
        Calls.due(house, 1, "which");
        Calls.same("which then what is seen", Calls.sight(house), before);
        house.strike();
        house.book();
        house.enter(1);
        Calls.due(house, 0, "which");
        house.undo();
        house.undo();
        Calls.due(house, NONE, "which");
        Calls.due(house, 0, "ledger", 0);
    }

    /** 2 how many ENTRIES were BOOKED (and not undone) */
    private static void bookedAreCounted() {
        Edgecount house = Calls.drafted(1, 2);
        house.book();
        Calls.due(house, 2, "ledger", 2);
        house.enter(3);
        house.book();
        Calls.due(house, 3, "ledger", 2);
        house.book();
        Calls.due(house, 3, "ledger", 2);
        house.undo();
        Calls.due(house, 3, "ledger", 2);
        house.undo();
        Calls.due(house, 2, "ledger", 2);
        house.undo();
        house.undo();
        Calls.due(house, 0, "ledger", 2);
        Calls.due(house, 2, "ledger", 1);
    }

    private static void bookedPastTwenty() {
        Edgecount house = new Edgecount();
        for (int round = 1; round <= 20; round++) {
            for (int k = 0; k < MOST; k++) {
                house.enter(round % 2 == 0 ? -k : k);
            }
            Calls.due(house, MOST, "book");
            Calls.due(house, MOST * round, "ledger", 2);
            Calls.due(house, round % 2 == 0 ? 0 : 190, "ledger", 0);
        }
    }

    /** Throws IndexOutOfBoundsException if there is none */
    private static void draftThrowsIfThereIsNone() {
        for (int k : new int[] {LEAST, -1, 0, 1, 19, 20, GREATEST}) {
            Calls.thrown(new Edgecount(), Calls.INDEX, "draft", k);
        }
        for (int k : new int[] {LEAST, -1, 20, 21, GREATEST}) {
            Calls.thrown(Calls.drafted(row(MOST, 1, 2)), Calls.INDEX, "draft", k);
        }
        Edgecount full = Calls.drafted(row(MOST, 1, 2));
        Calls.due(full, 1, "draft", 0);
        Calls.due(full, 2, "draft", 19);
    }

    private static void draftAfterStrikeBookAndUndo() {
        Edgecount house = Calls.drafted(5, 6, 7);
        house.strike();
        Calls.thrown(house, Calls.INDEX, "draft", 2);
        house.enter(8);
        Calls.due(house, 8, "draft", 2);
        house.book();
        Calls.thrown(house, Calls.INDEX, "draft", 0);
        house.enter(9);
        Calls.due(house, 9, "draft", 0);
        Calls.thrown(house, Calls.INDEX, "draft", 1);
        house.undo();
        house.undo();
        Calls.due(house, 5, "draft", 0);
        Calls.due(house, 8, "draft", 2);
        house.undo();
        Calls.thrown(house, Calls.INDEX, "draft", 2);
        house.undo();
        Calls.due(house, 7, "draft", 2);
    }

    /** Throws IllegalArgumentException if what is not 0 to 2 */
    private static void ledgerTakesZeroToTwo() {
        Edgecount house = Calls.drafted(1, 2, 3);
        house.book();
        house.enter(-9);
        Calls.due(house, 6, "ledger", 0);
        Calls.due(house, 1, "ledger", 1);
        Calls.due(house, 3, "ledger", 2);
        for (int what : new int[] {LEAST, -1, 3, GREATEST}) {
            Calls.thrown(house, Calls.ARGUMENT, "ledger", what);
        }
    }

    /** Beginning with 0 .. what one has at the end is written: of an empty DRAFT that is 0. */
    private static void hornerOfEmptyDraft() {
        for (int base : new int[] {-36, -1, 0, 1, 36}) {
            Edgecount house = Calls.narrows(0, 0, 0, 0, 0, 77);
            Calls.step(house, 1, "horner", 5, base);
            Calls.due(house, 0, "narrow", 5);
            Calls.due(house, 6, "undo");
            Calls.due(house, 77, "narrow", 5);
        }
    }

    /** It is REFUSED as soon as such a product .. is not in the SPAN of NARROW */
    private static void hornerRefusesAProduct() {
        Calls.refused(Calls.drafted(1073741824, -1), "horner", 5, 2);
        Calls.refused(Calls.drafted(-1073741825, GREATEST), "horner", 5, 2);
        Calls.refused(Calls.drafted(LEAST, 0), "horner", 5, -1);
        Calls.refused(Calls.drafted(LEAST, -1), "horner", 5, -1);
        Calls.refused(Calls.drafted(GREATEST, LEAST), "horner", 5, 36);
        Calls.refused(Calls.drafted(GREATEST, GREATEST), "horner", 5, -36);
        // A product that goes round to 0, and one that a later product by 0 could not mend.
        Calls.refused(Calls.drafted(1073741824, 5), "horner", 5, 4);
        Calls.refused(Calls.drafted(65536 * 16384, 0, 3), "horner", 5, 16);
    }

    /** .. or such a sum is not in the SPAN of NARROW */
    private static void hornerRefusesASum() {
        Calls.refused(Calls.drafted(GREATEST, 1), "horner", 5, 1);
        Calls.refused(Calls.drafted(LEAST, -1), "horner", 5, 1);
        Calls.refused(Calls.drafted(1073741823, 2), "horner", 5, 2);
        Calls.refused(Calls.drafted(-1073741824, -1), "horner", 5, 2);
        // The next product would come back into the SPAN: GREATEST + 1 by -1 is LEAST.
        Calls.refused(Calls.drafted(-GREATEST, 1, 0), "horner", 5, -1);
        // The next sum would come back, or a later ENTRY changes nothing more.
        Calls.refused(Calls.drafted(GREATEST, 1, -1), "horner", 5, 1);
        Calls.refused(Calls.drafted(GREATEST, -2, 0), "horner", 5, -1);
        Calls.refused(Calls.drafted(LEAST, -1, 1), "horner", 5, 1);
        Calls.refused(Calls.drafted(GREATEST, 1, 0, 0), "horner", 5, 1);
    }

    private static void horner(int want, int base, int... amounts) {
        Edgecount house = Calls.drafted(amounts);
        Calls.step(house, 1, "horner", 5, base);
        Calls.due(house, want, "narrow", 5);
    }

    /** otherwise what one has at the end is written */
    private static void hornerAtBothEnds() {
        horner(GREATEST, 36, GREATEST);
        horner(LEAST, -36, LEAST);
        horner(GREATEST, 2, 1073741823, 1);
        horner(LEAST, 2, -1073741824, 0);
        horner(LEAST, -2, 1073741824, 0);
        horner(GREATEST, 1, LEAST, GREATEST, 1, GREATEST);
        horner(GREATEST, -1, -GREATEST, 0);
        horner(LEAST + 1, -1, GREATEST, 0);
        horner(LEAST, 0, GREATEST, LEAST);
        horner(GREATEST, 0, LEAST, GREATEST);
        horner(-9, 10, -1, 1);
    }

    /** for each ENTRY of the DRAFT in its order: of 20, the last one too. */
    private static void hornerOfTwenty() {
        horner(1048575 + 1, 2, row(MOST, 1, 2));
        horner(22, 1, row(MOST, 1, 3));
        horner(3, 0, row(MOST, GREATEST, 3));
        horner(-349525, -2, row(MOST, 1, 1));
        Calls.refused(Calls.drafted(row(MOST, 107374182, 107374182 + 8)), "horner", 5, 1);
        horner(GREATEST, 1, row(MOST, 107374182, 107374182 + 7));
    }

    /** (The DRAFT stays.) */
    private static void hornerKeepsTheDraft() {
        Edgecount house = Calls.drafted(1, 2, 3);
        Calls.step(house, 1, "horner", 0, 10);
        Calls.step(house, 1, "horner", 1, -10);
        Calls.due(house, 123, "narrow", 0);
        Calls.due(house, 83, "narrow", 1);
        Calls.due(house, 3, "ledger", 1);
        Calls.due(house, 0, "ledger", 0);
        Calls.due(house, 0, "ledger", 2);
        for (int k = 0; k < 3; k++) {
            Calls.due(house, k + 1, "draft", k);
        }
    }

    /** Throws IllegalArgumentException if base is not -36 to 36 */
    private static void hornerTakesBases() {
        for (int base = -36; base <= 36; base++) {
            horner(base * base + 2 * base + 3, base, 1, 2, 3);
        }
        for (int base : new int[] {LEAST, -37, 37, GREATEST}) {
            Calls.thrown(Calls.drafted(1), Calls.ARGUMENT, "horner", 5, base);
            Calls.thrown(new Edgecount(), Calls.ARGUMENT, "horner", 0, base);
        }
    }

    /** If several exceptions apply, the one that is named first is thrown. */
    private static void hornerCellAheadOfBase() {
        for (int cell : new int[] {LEAST, -1, 6, GREATEST}) {
            for (int base : new int[] {LEAST, -37, -36, 0, 36, 37, GREATEST}) {
                Calls.thrown(Calls.drafted(1), Calls.INDEX, "horner", cell, base);
            }
        }
    }
}
