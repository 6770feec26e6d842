/** Promise 22: told; and that refusals change nothing. */
public final class ToldTest {
    private static final Due due = new Due("ToldTest");

    public static void main(String[] args) {
        told();
        refusalsChangeNothing();
        due.end();
    }

    private static void all(String where, SeatCounts x, int... want) {
        for (int what = 0; what < want.length; what++) {
            due.is(where + " told(" + what + ")", x.told(what), want[what]);
        }
    }

    private static void told() {
        SeatCounts x = new SeatCounts();
        all("new", x, 3, 0, 0, 0, 0, SeatCounts.NONE, 0);
        x.candidates(5);
        x.pile(0x21, 9);
        x.pile(0x1, 8);
        x.withdraw(0, true);
        all("piles", x, 5, 2, 9, 0, 0, SeatCounts.NONE, 1);
        x.count(0, 2);
        all("rule 0", x, 5, 2, 9, 4, 2, 0, 1);
        x.count(3, 4);
        all("rule 3", x, 5, 2, 9, 1, 4, 3, 1);
        x.candidates(2);
        all("candidates", x, 2, 0, 0, 1, 4, 3, 0);
        int[] wrong = {-1, 7, Integer.MIN_VALUE, Integer.MAX_VALUE};
        for (int what : wrong) {
            due.is("told(" + what + ")", x.told(what), SeatCounts.OUTSIDE);
        }
    }

    private static void refusalsChangeNothing() {
        SeatCounts x = new SeatCounts();
        x.pile(0x21, 9);
        x.pile(0x3, 8);
        x.withdraw(2, true);
        x.count(2, 1);
        x.forge(0, 0, 77);
        x.candidates(0);
        x.withdraw(3, true);
        x.lot(3, 0);
        x.lot(0, 3);
        x.pile(0x44, 5);
        x.pile(0x1, 501);
        x.change(2, 5);
        x.change(0, 501);
        x.count(9, 1);
        x.count(1, 0);
        x.forge(1, 0, 5);
        x.forge(0, 3, 5);
        all("behind refusals", x, 3, 2, 9, 1, 1, 2, 1);
        for (int c = 0; c < 3; c++) {
            due.is("lot of " + c, x.lot(c, c), c);
        }
        due.is("papers", x.about(0, 0), 9);
        due.is("votes", x.votes(0, 0), 900000);
        due.is("the forged number", x.sheet(0, 0), 77);
        due.is("check()", x.check(), -20);
    }
}
