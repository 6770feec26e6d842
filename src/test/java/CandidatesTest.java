/** Promises 1 to 4: a new object, candidates, withdraw, lot. A test for each sentence. */
public final class CandidatesTest {
    private static final int UNKNOWN = SeatCounts.UNKNOWN, OUTSIDE = SeatCounts.OUTSIDE;
    private static final int STATE = SeatCounts.STATE, NONE = SeatCounts.NONE;
    private static final Due due = new Due("CandidatesTest");

    public static void main(String[] args) {
        threeCandidates();
        noPiles();
        noCount();
        howManyCandidates();
        howManyThereWere();
        noneWithdrawn();
        ownNumbersAsLots();
        pilesAreGone();
        countAndSheetStay();
        noCountStaysNone();
        withdrawnOrNot();
        withdrawUnknown();
        withdrawAll();
        lotsChangePlaces();
        ownLotAgain();
        lotsStayUnlike();
        lotOfWithdrawn();
        lotUnknown();
        lotOutside();
        oneLot();
        due.end();
    }

    // ---- Promise 1

    /** "Three CANDIDATES": 0 to 2, with their own numbers as LOTS, none withdrawn. */
    private static void threeCandidates() {
        SeatCounts x = new SeatCounts();
        due.is("new told(0)", x.told(0), 3);
        due.is("new told(6)", x.told(6), 0);
        for (int c = 0; c < 3; c++) {
            due.is("new LOT of " + c, x.lot(c, c), c);
            due.is("new withdraw(" + c + ", false)", x.withdraw(c, false), 0);
        }
        due.is("new withdraw(3, true)", x.withdraw(3, true), UNKNOWN);
        due.is("new withdraw(-1, true)", x.withdraw(-1, true), UNKNOWN);
        due.is("0x321 can be preferred", x.pile(0x321, 1), 0);
        due.is("0x4 can't", x.pile(0x4, 1), OUTSIDE);
    }

    /** "no PILES" */
    private static void noPiles() {
        SeatCounts x = new SeatCounts();
        due.is("new told(1)", x.told(1), 0);
        due.is("new told(2)", x.told(2), 0);
        due.is("new about(0, 0)", x.about(0, 0), UNKNOWN);
        due.is("new change(0, 1)", x.change(0, 1), UNKNOWN);
        due.is("new prefer(0, 1)", x.prefer(0, 1), 0);
        due.is("new winner()", x.winner(), NONE);
        due.is("new leads(0)", x.leads(0), 0);
        due.is("new points(0)", x.points(0), 0);
    }

    /** "no COUNT" */
    private static void noCount() {
        SeatCounts x = new SeatCounts();
        due.is("new told(3)", x.told(3), 0);
        due.is("new told(4)", x.told(4), 0);
        due.is("new told(5)", x.told(5), NONE);
        due.is("new stage(0, 0)", x.stage(0, 0), UNKNOWN);
        due.is("new votes(0, 0)", x.votes(0, 0), UNKNOWN);
        due.is("new status(0, 0)", x.status(0, 0), UNKNOWN);
        due.is("new elected(0)", x.elected(0), NONE);
        due.is("new keep(0, 0)", x.keep(0, 0), UNKNOWN);
        due.is("new lies(0, 0, 0)", x.lies(0, 0, 0), UNKNOWN);
        due.is("new sheet(0, 0)", x.sheet(0, 0), UNKNOWN);
        due.is("new forge(0, 0, 1)", x.forge(0, 0, 1), UNKNOWN);
        due.is("new check()", x.check(), STATE);
    }

    // ---- Promise 2

    /** "There are n CANDIDATES", "OUTSIDE: n is not 1 to 12." */
    private static void howManyCandidates() {
        for (int n = -2; n < 16; n++) {
            SeatCounts x = new SeatCounts();
            boolean taken = n >= 1 && n <= 12;
            due.is("candidates(" + n + ")", x.candidates(n), taken ? 3 : OUTSIDE);
            int now = taken ? n : 3;
            due.is("told(0) behind candidates(" + n + ")", x.told(0), now);
            due.is("the last one, of " + now, x.withdraw(now - 1, true), 1);
            due.is("one further, of " + now, x.withdraw(now, true), UNKNOWN);
        }
        SeatCounts x = new SeatCounts();
        due.is("candidates(MIN)", x.candidates(Integer.MIN_VALUE), OUTSIDE);
        due.is("candidates(MAX)", x.candidates(Integer.MAX_VALUE), OUTSIDE);
        due.is("told(0) is 3 still", x.told(0), 3);
    }

    /** "how many CANDIDATES there were." */
    private static void howManyThereWere() {
        SeatCounts x = new SeatCounts();
        due.is("3 at first", x.candidates(1), 3);
        due.is("then 1", x.candidates(12), 1);
        due.is("then 12", x.candidates(12), 12);
        due.is("refused", x.candidates(13), OUTSIDE);
        due.is("12 still", x.candidates(2), 12);
    }

    /** "none withdrawn", of as many as before, and of more. */
    private static void noneWithdrawn() {
        for (int n = 3; n < 5; n++) {
            SeatCounts x = new SeatCounts();
            x.withdraw(0, true);
            x.withdraw(2, true);
            x.candidates(n);
            due.is("told(6)", x.told(6), 0);
            due.is("withdraw(0, false)", x.withdraw(0, false), 0);
            due.is("withdraw(2, false)", x.withdraw(2, false), 0);
        }
    }

    /** "with their own numbers as LOTS", those that were not there ahead, too. */
    private static void ownNumbersAsLots() {
        SeatCounts x = new SeatCounts();
        x.candidates(12);
        x.lot(0, 11);
        x.lot(1, 10);
        x.candidates(2);
        due.is("of 2: LOT of 0", x.lot(0, 0), 0);
        due.is("of 2: LOT of 1", x.lot(1, 1), 1);
        x.lot(0, 1);
        x.candidates(12);
        for (int c = 0; c < 12; c++) {
            due.is("of 12: LOT of " + c, x.lot(c, c), c);
        }
    }

    /** "no PILES" */
    private static void pilesAreGone() {
        SeatCounts x = new SeatCounts();
        x.pile(0x12, 7);
        x.pile(0x3, 7);
        x.candidates(3);
        due.is("told(1)", x.told(1), 0);
        due.is("told(2)", x.told(2), 0);
        due.is("about(0, 0)", x.about(0, 0), UNKNOWN);
        due.is("prefer(1, 0)", x.prefer(1, 0), 0);
        due.is("a new PILE is the first one", x.pile(0x1, 2), 0);
        due.is("it has its own papers", x.about(0, 0), 2);
        due.is("it has its own preferences", x.prefer(1, 0), 0);
    }

    /** "(the latest COUNT and THE SHEET stay)", of more CANDIDATES than there are now, and of fewer. */
    private static void countAndSheetStay() {
        for (int n = 1; n <= 12; n++) {
            String at = "behind candidates(" + n + "): ";
            SeatCounts x = new SeatCounts();
            x.pile(0x12, 7);
            x.withdraw(2, true);
            x.count(0, 1);
            x.forge(0, 0, 5);
            x.candidates(n);
            due.is(at + "STAGES", x.told(3), 1);
            due.is(at + "ELECTED", x.told(4), 1);
            due.is(at + "RULE", x.told(5), 0);
            due.is(at + "what the STAGE is", x.stage(0, 5), 400000);
            due.is(at + "votes", x.votes(0, 1), 700000);
            due.is(at + "the last one's votes", x.votes(0, 2), 0);
            due.is(at + "no more of them", x.votes(0, 3), UNKNOWN);
            due.is(at + "the withdrawn one", x.status(0, 2), 3);
            due.is(at + "no more of them", x.status(0, 3), UNKNOWN);
            due.is(at + "who was ELECTED", x.elected(0), 1);
            due.is(at + "where the PILE lies", x.lies(0, 0, 0), 1);
            due.is(at + "THE SHEET", x.sheet(0, 1), 700000);
            due.is(at + "what was forged", x.sheet(0, 0), 5);
            due.is(at + "no more of it", x.sheet(0, 3), UNKNOWN);
            due.is(at + "check()", x.check(), -20);
            due.is(at + "forge back", x.forge(0, 0, 0), 5);
            due.is(at + "check() then", x.check(), 1);
        }
    }

    private static void noCountStaysNone() {
        SeatCounts x = new SeatCounts();
        x.candidates(5);
        due.is("told(3)", x.told(3), 0);
        due.is("told(5)", x.told(5), NONE);
        due.is("check()", x.check(), STATE);
    }

    // ---- Promise 3

    /** "A CANDIDATE is withdrawn, or is not (any more): 1; 0: it was so already." */
    private static void withdrawnOrNot() {
        SeatCounts x = new SeatCounts();
        due.is("is not, as at first", x.withdraw(1, false), 0);
        due.is("is", x.withdraw(1, true), 1);
        due.is("is already", x.withdraw(1, true), 0);
        due.is("told(6)", x.told(6), 1);
        due.is("the one ahead is not", x.withdraw(0, false), 0);
        due.is("the one behind is not", x.withdraw(2, false), 0);
        due.is("is not any more", x.withdraw(1, false), 1);
        due.is("is not already", x.withdraw(1, false), 0);
        due.is("told(6) then", x.told(6), 0);
    }

    /** "UNKNOWN." */
    private static void withdrawUnknown() {
        for (int n = 1; n <= 12; n++) {
            SeatCounts x = new SeatCounts();
            x.candidates(n);
            due.is("the first", x.withdraw(0, true), 1);
            due.is("ahead of it", x.withdraw(-1, true), UNKNOWN);
            due.is("the last, of " + n, x.withdraw(n - 1, true), n == 1 ? 0 : 1);
            due.is("behind it, of " + n, x.withdraw(n, true), UNKNOWN);
            due.is("behind it, false", x.withdraw(n, false), UNKNOWN);
            due.is("told(6), of " + n, x.told(6), Math.min(n, 2));
        }
    }

    /** Nothing keeps the last one from being withdrawn. */
    private static void withdrawAll() {
        SeatCounts x = new SeatCounts();
        x.candidates(12);
        for (int c = 0; c < 12; c++) {
            due.is("withdraw(" + c + ", true)", x.withdraw(c, true), 1);
            due.is("told(6)", x.told(6), c + 1);
        }
        due.is("one is not any more", x.withdraw(11, false), 1);
        due.is("told(6) then", x.told(6), 11);
    }

    // ---- Promise 4

    /** "A CANDIDATE gets a LOT, the one that had that gets its one: which LOT it had." */
    private static void lotsChangePlaces() {
        SeatCounts x = new SeatCounts();
        x.candidates(5);
        due.is("0 had 0", x.lot(0, 4), 0);
        due.is("4 got 0's, and gets it again", x.lot(4, 0), 0);
        due.is("2 had 2", x.lot(2, 4), 2);
        due.is("0 got 2's", x.lot(0, 2), 2);
        due.is("2 has 4", x.lot(2, 4), 4);
        due.is("1 has its own", x.lot(1, 1), 1);
        due.is("3 has its own", x.lot(3, 3), 3);
    }

    /** The one that had that may be itself. */
    private static void ownLotAgain() {
        SeatCounts x = new SeatCounts();
        x.lot(0, 2);
        due.is("0 gets what it has", x.lot(0, 2), 2);
        due.is("1 has its own", x.lot(1, 1), 1);
        due.is("2 has 0's", x.lot(2, 0), 0);
        due.is("0 has it still", x.lot(0, 2), 2);
    }

    /** "LOTS: each CANDIDATE has one, unlike, 0 .. n - 1" */
    private static void lotsStayUnlike() {
        SeatCounts x = new SeatCounts();
        x.candidates(12);
        for (int k = 0; k < 60; k++) {
            x.lot(k * 7 % 12, k * k % 12);
        }
        int seen = 0;
        for (int c = 0; c < 12; c++) {
            int lot = x.lot(c, 0);
            x.lot(c, lot);
            due.holds("LOT " + lot + " is 0 to 11", lot >= 0 && lot < 12);
            seen |= 1 << lot;
        }
        due.is("all LOTS are there", seen, 0xFFF);
    }

    private static void lotOfWithdrawn() {
        SeatCounts x = new SeatCounts();
        x.withdraw(1, true);
        due.is("a withdrawn one has a LOT, too", x.lot(1, 0), 1);
        due.is("0 got it", x.lot(0, 1), 1);
        due.is("it is withdrawn still", x.withdraw(1, true), 0);
    }

    /** "UNKNOWN" */
    private static void lotUnknown() {
        for (int n = 1; n <= 12; n++) {
            SeatCounts x = new SeatCounts();
            x.candidates(n);
            due.is("the last, of " + n, x.lot(n - 1, 0), n - 1);
            due.is("behind it, of " + n, x.lot(n, 0), UNKNOWN);
            due.is("ahead of all", x.lot(-1, 0), UNKNOWN);
            due.is("UNKNOWN comes first", x.lot(n, n), UNKNOWN);
            due.is("the last has it still", x.lot(n - 1, n - 1), 0);
        }
    }

    /** "OUTSIDE: lot is not 0 to n - 1." */
    private static void lotOutside() {
        for (int n = 1; n <= 12; n++) {
            SeatCounts x = new SeatCounts();
            x.candidates(n);
            due.is("the last LOT, of " + n, x.lot(0, n - 1), 0);
            due.is("behind it, of " + n, x.lot(0, n), OUTSIDE);
            due.is("the first LOT", x.lot(0, 0), n - 1);
            due.is("ahead of it", x.lot(0, -1), OUTSIDE);
            due.is("0 has it still", x.lot(0, 0), 0);
            due.is("the last has its own", x.lot(n - 1, n - 1), n - 1);
        }
    }

    private static void oneLot() {
        SeatCounts x = new SeatCounts();
        x.candidates(1);
        due.is("lot(0, 0)", x.lot(0, 0), 0);
        due.is("lot(0, 1)", x.lot(0, 1), OUTSIDE);
        due.is("lot(0, -1)", x.lot(0, -1), OUTSIDE);
        due.is("lot(1, 0)", x.lot(1, 0), UNKNOWN);
    }
}
