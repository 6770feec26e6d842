/** Promise 22: told; and how many calls an object is promised. */
public final class ToldTest {
    private static final Due due = new Due("ToldTest");

    public static void main(String[] args) {
        toldOfANewOne();
        told();
        toldOfTheMost();
        validPapers();
        outside();
        lastCalls();
        due.end();
    }

    private static void all(String where, SeatCounts x, int... want) {
        for (int what = 0; what < want.length; what++) {
            due.is(where + " told(" + what + ")", x.told(what), want[what]);
        }
    }

    /** "3 STAGES of the latest COUNT (0: there was none), 4 ELECTED in it, 5 its RULE (NONE)" */
    private static void toldOfANewOne() {
        all("new", new SeatCounts(), 3, 0, 0, 0, 0, SeatCounts.NONE, 0);
    }

    /** 0, 1, 2 and 6 are of now, 3, 4 and 5 of the latest COUNT. */
    private static void told() {
        SeatCounts x = new SeatCounts();
        x.candidates(5);
        x.pile(0x21, 9);
        x.pile(0x1, 8);
        x.withdraw(0, true);
        all("piles", x, 5, 2, 9, 0, 0, SeatCounts.NONE, 1);
        x.count(0, 2);
        all("rule 0", x, 5, 2, 9, 4, 2, 0, 1);
        x.count(3, 4);
        all("rule 3", x, 5, 2, 9, 1, 4, 3, 1);
        x.candidates(2);
        all("candidates", x, 2, 0, 0, 1, 4, 3, 0);
    }

    private static void toldOfTheMost() {
        SeatCounts x = new SeatCounts();
        x.candidates(12);
        for (int k = 0; k < 80; k++) {
            x.pile(0xC, 500);
        }
        x.count(2, 12);
        all("the most", x, 12, 80, 40000, 1, 12, 2, 0);
        for (int c = 0; c < 12; c++) {
            x.withdraw(c, true);
        }
        all("all withdrawn", x, 12, 80, 0, 1, 12, 2, 12);
    }

    /** "2 papers of VALID PILES" */
    private static void validPapers() {
        SeatCounts x = new SeatCounts();
        x.pile(0x1, 3);
        x.pile(0x21, 4);
        due.is("all", x.told(2), 7);
        x.withdraw(0, true);
        due.is("those that prefer 1", x.told(2), 4);
        x.withdraw(1, true);
        due.is("none", x.told(2), 0);
        due.is("PILES that are not VALID are PILES", x.told(1), 2);
    }

    /** "OUTSIDE." */
    private static void outside() {
        SeatCounts x = new SeatCounts();
        for (int rule = -1; rule < 4; rule++) {
            x.count(rule, 1);
            for (int what : new int[] {-1, 7, 8, Integer.MIN_VALUE, Integer.MAX_VALUE}) {
                due.is("told(" + what + ")", x.told(what), SeatCounts.OUTSIDE);
            }
        }
    }

    /** "An object is used for at most 512 calls": the last of them answers as the first, whatever was called. */
    private static void lastCalls() {
        for (int rule = 0; rule < 4; rule++) {
            SeatCounts x = new SeatCounts();
            x.candidates(12);
            for (int k = 0; k < 80; k++) {
                x.pile(0xBA987654321L, 500);
            }
            for (int call = 82; call < 511; call++) {
                due.is("call " + call + ": count(" + rule + ", 1)", x.count(rule, 1), 1);
            }
            due.is("call 511: change(79, 499)", x.change(79, 499), 500);
            due.is("call 512: told(2)", x.told(2), 39999);
        }
    }
}
