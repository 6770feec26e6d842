/** Promises 1 to 4: a new object, candidates, withdraw, lot. */
public final class CandidatesTest {
    private static final Due due = new Due("CandidatesTest");

    public static void main(String[] args) {
        newObject();
        candidates();
        candidatesStartAfresh();
        withdraw();
        lot();
        due.end();
    }

    private static void newObject() {
        SeatCounts x = new SeatCounts();
        due.is("new told(0)", x.told(0), 3);
        due.is("new told(1)", x.told(1), 0);
        due.is("new told(3)", x.told(3), 0);
        due.is("new told(5)", x.told(5), SeatCounts.NONE);
        due.is("new told(6)", x.told(6), 0);
        for (int c = 0; c < 3; c++) {
            due.is("new lot of " + c, x.lot(c, c), c);
        }
        due.is("new stage(0, 0)", x.stage(0, 0), SeatCounts.UNKNOWN);
        due.is("new elected(0)", x.elected(0), SeatCounts.NONE);
        due.is("new check()", x.check(), SeatCounts.STATE);
    }

    private static void candidates() {
        SeatCounts x = new SeatCounts();
        due.is("candidates(1)", x.candidates(1), 3);
        due.is("candidates(12)", x.candidates(12), 1);
        int[] wrong = {0, 13, -1, Integer.MIN_VALUE, Integer.MAX_VALUE};
        for (int n : wrong) {
            due.is("candidates(" + n + ")", x.candidates(n), SeatCounts.OUTSIDE);
        }
        due.is("told(0) behind refusals", x.told(0), 12);
        due.is("candidates(12) again", x.candidates(12), 12);
    }

    private static void candidatesStartAfresh() {
        SeatCounts x = new SeatCounts();
        x.pile(0x12, 7);
        x.withdraw(2, true);
        x.lot(0, 2);
        x.count(0, 1);
        x.forge(0, 0, 5);
        due.is("candidates(3)", x.candidates(3), 3);
        due.is("PILES are gone", x.told(1), 0);
        due.is("none is withdrawn", x.told(6), 0);
        due.is("LOTS are their own numbers", x.lot(0, 0), 0);
        due.is("LOTS are their own numbers", x.lot(2, 2), 2);
        due.is("the COUNT stays", x.told(3), 1);
        due.is("the COUNT's votes stay", x.votes(0, 1), 700000);
        due.is("the COUNT's withdrawn one stays", x.status(0, 2), 3);
        due.is("the COUNT's PILE stays", x.lies(0, 0, 0), 1);
        due.is("THE SHEET stays", x.sheet(0, 0), 5);
        due.is("THE SHEET stays forged", x.check(), -20);

        x.candidates(1);
        due.is("a CANDIDATE of the COUNT, gone by now", x.votes(0, 2), 0);
        x.candidates(12);
        due.is("a CANDIDATE of now, not of the COUNT", x.votes(0, 3), SeatCounts.UNKNOWN);
    }

    private static void withdraw() {
        SeatCounts x = new SeatCounts();
        due.is("withdraw(1, false) at first", x.withdraw(1, false), 0);
        due.is("withdraw(1, true)", x.withdraw(1, true), 1);
        due.is("withdraw(1, true) again", x.withdraw(1, true), 0);
        due.is("told(6)", x.told(6), 1);
        due.is("withdraw(1, false)", x.withdraw(1, false), 1);
        due.is("told(6) then", x.told(6), 0);
        due.is("withdraw(-1, true)", x.withdraw(-1, true), SeatCounts.UNKNOWN);
        due.is("withdraw(3, true)", x.withdraw(3, true), SeatCounts.UNKNOWN);
        due.is("withdraw(MAX, false)", x.withdraw(Integer.MAX_VALUE, false), SeatCounts.UNKNOWN);
        due.is("told(6) behind refusals", x.told(6), 0);
    }

    private static void lot() {
        SeatCounts x = new SeatCounts();
        x.candidates(5);
        due.is("lot(0, 4)", x.lot(0, 4), 0);
        due.is("4 got 0's", x.lot(4, 0), 0);
        due.is("lot(2, 4)", x.lot(2, 4), 2);
        due.is("0 got 2's", x.lot(0, 2), 2);
        due.is("2 has 4", x.lot(2, 4), 4);
        due.is("lot(0, 5)", x.lot(0, 5), SeatCounts.OUTSIDE);
        due.is("lot(0, -1)", x.lot(0, -1), SeatCounts.OUTSIDE);
        due.is("lot(5, 0)", x.lot(5, 0), SeatCounts.UNKNOWN);
        due.is("UNKNOWN comes first", x.lot(-1, 99), SeatCounts.UNKNOWN);
        due.is("0's behind refusals", x.lot(0, 2), 2);
        x.withdraw(1, true);
        due.is("a withdrawn one has a LOT, too", x.lot(1, 3), 1);
        due.is("3 got it", x.lot(3, 1), 1);
    }
}
