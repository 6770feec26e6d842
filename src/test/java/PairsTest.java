/** Promises 18 to 21: prefer, winner, leads, points. A test for each sentence. */
public final class PairsTest {
    private static final int NONE = SeatCounts.NONE, UNKNOWN = SeatCounts.UNKNOWN, STATE = SeatCounts.STATE;
    private static final int MIN = Integer.MIN_VALUE, MAX = Integer.MAX_VALUE;
    private static final Due due = new Due("PairsTest");

    public static void main(String[] args) {
        prefer();
        preferNotPreferred();
        preferUnknown();
        preferItself();
        preferWithdrawnAndNotValid();
        winnerByOnePaper();
        winnerOfEachOther();
        winnerOfOne();
        winnerOfNone();
        leadsItselfToo();
        leadsByOnePaper();
        leadsAlongAChain();
        leadsRoundARing();
        leadsPastWithdrawn();
        leadsUnknown();
        points();
        pointsOfWithdrawn();
        pointsUnknown();
        mostPapers();
        due.end();
    }

    private static SeatCounts house() {
        SeatCounts x = new SeatCounts();
        x.candidates(4);
        x.pile(0x21, 10);
        x.pile(0x132, 7);
        x.pile(0x3, 4);
        return x;
    }

    // ---- Promise 18

    /** "How many papers prefer a to b" */
    private static void prefer() {
        SeatCounts x = house();
        due.is("0 to 1", x.prefer(0, 1), 10);
        due.is("1 to 0", x.prefer(1, 0), 7);
        due.is("1 to 2", x.prefer(1, 2), 17);
        due.is("2 to 1", x.prefer(2, 1), 4);
        due.is("no PILES", new SeatCounts().prefer(0, 1), 0);
    }

    /** "(one that is not preferred at all comes behind all that are)", and two such are alike. */
    private static void preferNotPreferred() {
        SeatCounts x = house();
        due.is("0 to 3", x.prefer(0, 3), 17);
        due.is("3 to 0", x.prefer(3, 0), 0);
        due.is("2 to 0", x.prefer(2, 0), 11);
        due.is("0 to 2", x.prefer(0, 2), 10);
        x.candidates(4);
        x.pile(0x1, 5);
        due.is("2 to 3, neither of whom is preferred", x.prefer(2, 3), 0);
        due.is("3 to 2", x.prefer(3, 2), 0);
    }

    /** "UNKNOWN", ahead of STATE. */
    private static void preferUnknown() {
        for (int n = 1; n <= 12; n++) {
            SeatCounts x = new SeatCounts();
            x.candidates(n);
            for (int c : new int[] {-1, n, MIN, MAX}) {
                due.is("prefer(" + c + ", 0)", x.prefer(c, 0), UNKNOWN);
                due.is("prefer(0, " + c + ")", x.prefer(0, c), UNKNOWN);
                due.is("prefer(" + c + ", " + c + ")", x.prefer(c, c), UNKNOWN);
            }
            due.is("the last", x.prefer(n - 1, 0), n == 1 ? STATE : 0);
        }
    }

    /** "STATE: a is b." */
    private static void preferItself() {
        SeatCounts x = house();
        for (int c = 0; c < 4; c++) {
            due.is("prefer(" + c + ", " + c + ")", x.prefer(c, c), STATE);
        }
    }

    /** The words leave out neither withdrawn ones nor papers of PILES that are not VALID. */
    private static void preferWithdrawnAndNotValid() {
        SeatCounts x = house();
        x.withdraw(2, true);
        due.is("a withdrawn one", x.prefer(2, 0), 11);
        x.change(2, 500);
        due.is("papers of now, of a PILE that is not VALID", x.prefer(2, 0), 507);
    }

    // ---- Promise 19

    /** "by more papers than the other way round" */
    private static void winnerByOnePaper() {
        SeatCounts x = new SeatCounts();
        x.pile(0x21, 3);
        x.pile(0x12, 3);
        due.is("as many", x.winner(), NONE);
        x.change(1, 4);
        due.is("one more", x.winner(), 1);
        x.change(0, 5);
        due.is("one more the other way round", x.winner(), 0);
    }

    /** "to each other one that is not": one that is not behind is enough. */
    private static void winnerOfEachOther() {
        SeatCounts x = new SeatCounts();
        x.candidates(12);
        x.pile(0xC, 5);
        due.is("to all others", x.winner(), 11);
        x.pile(0x1, 5);
        due.is("not to 0", x.winner(), NONE);
        x.withdraw(0, true);
        due.is("0 is withdrawn", x.winner(), 11);
        x.withdraw(0, false);
        x.withdraw(11, true);
        due.is("11 is withdrawn", x.winner(), 0);
    }

    /** There is no other one, so it is preferred to each. */
    private static void winnerOfOne() {
        SeatCounts x = new SeatCounts();
        x.candidates(1);
        due.is("one, no papers", x.winner(), 0);
        x.candidates(3);
        x.withdraw(0, true);
        x.withdraw(2, true);
        x.pile(0x1, 5);
        due.is("one that is not withdrawn", x.winner(), 1);
    }

    /** "NONE": no papers, nobody left, or round and round. */
    private static void winnerOfNone() {
        SeatCounts x = new SeatCounts();
        due.is("no papers", x.winner(), NONE);
        x.pile(0x321, 3);
        due.is("0", x.winner(), 0);
        x.pile(0x132, 3);
        x.pile(0x213, 3);
        due.is("round and round", x.winner(), NONE);
        for (int c = 0; c < 3; c++) {
            x.withdraw(c, true);
        }
        due.is("all are withdrawn", x.winner(), NONE);
    }

    // ---- Promise 20

    /** "and all to whom these lead (itself, too, if one leads back)" */
    private static void leadsItselfToo() {
        SeatCounts x = new SeatCounts();
        x.candidates(4);
        x.pile(0x321, 3);
        x.pile(0x132, 3);
        x.pile(0x213, 3);
        for (int c = 0; c < 3; c++) {
            due.is("leads(" + c + ")", x.leads(c), 4);
        }
        due.is("to whom all lead", x.leads(3), 0);
        x.candidates(2);
        x.pile(0x21, 1);
        due.is("none leads back", x.leads(0), 1);
        due.is("none is led to", x.leads(1), 0);
    }

    /** "by more papers than the other way round" */
    private static void leadsByOnePaper() {
        SeatCounts x = new SeatCounts();
        x.candidates(2);
        x.pile(0x21, 3);
        x.pile(0x12, 3);
        due.is("as many", x.leads(0), 0);
        due.is("as many", x.leads(1), 0);
        x.change(0, 4);
        due.is("one more", x.leads(0), 1);
        due.is("one less", x.leads(1), 0);
        due.is("no PILES", new SeatCounts().leads(0), 0);
    }

    /** Two PILES by which a is preferred to b, and all others are alike. */
    private static void addPair(SeatCounts x, int a, int b) {
        long upwards = 0;
        long downwards = 0;
        for (int other = 0; other < 12; other++) {
            if (other != a && other != b) {
                downwards = downwards << 4 | (other + 1);
                upwards = upwards >> 4 | (long) (other + 1) << 36;
            }
        }
        long pair = (long) (b + 1) << 4 | (a + 1);
        x.pile(upwards << 8 | pair, 5);
        x.pile(pair << 40 | downwards, 5);
    }

    /** Each is preferred to the next one alone, so it leads on only through that; up the numbers, and down. */
    private static void leadsAlongAChain() {
        for (int way = -1; way <= 1; way += 2) {
            SeatCounts x = new SeatCounts();
            x.candidates(12);
            for (int c = 0; c < 12; c++) {
                if (c + way >= 0 && c + way < 12) {
                    addPair(x, c, c + way);
                }
            }
            due.is("the chain's PILES", x.told(1), 22);
            for (int c = 0; c < 12; c++) {
                due.is("the chain, leads(" + c + ")", x.leads(c), way > 0 ? 11 - c : c);
            }
            x.withdraw(5, true);
            for (int c = 0; c < 12; c++) {
                int down = c < 5 ? c : c - 6;
                int up = c > 5 ? 11 - c : 4 - c;
                due.is("the broken chain, leads(" + c + ")", x.leads(c), c == 5 ? 0 : way > 0 ? up : down);
            }
        }
    }

    /** The last of 12 leads back, so that each leads to all, itself, too. */
    private static void leadsRoundARing() {
        for (int way = 1; way < 12; way += 10) {
            SeatCounts x = new SeatCounts();
            x.candidates(12);
            for (int c = 0; c < 12; c++) {
                addPair(x, c, (c + way) % 12);
            }
            for (int c = 0; c < 12; c++) {
                due.is("the ring, leads(" + c + ")", x.leads(c), 12);
            }
            due.is("the ring's winner", x.winner(), NONE);
        }
    }

    /** "those, not withdrawn"; "None, if it is withdrawn." */
    private static void leadsPastWithdrawn() {
        SeatCounts x = new SeatCounts();
        x.candidates(4);
        x.pile(0x321, 3);
        x.pile(0x132, 3);
        x.pile(0x213, 3);
        x.withdraw(1, true);
        due.is("2 leads to 0 and 3", x.leads(2), 2);
        due.is("0 leads to 3, and not through 1", x.leads(0), 1);
        due.is("1 is withdrawn", x.leads(1), 0);
        x.withdraw(1, false);
        due.is("1 is back", x.leads(1), 4);
    }

    /** "UNKNOWN." */
    private static void leadsUnknown() {
        for (int n = 1; n <= 12; n++) {
            SeatCounts x = new SeatCounts();
            x.candidates(n);
            x.pile(n, 1);
            due.is("the last leads to all others", x.leads(n - 1), n - 1);
            for (int c : new int[] {-1, n, MIN, MAX}) {
                due.is("leads(" + c + ") of " + n, x.leads(c), UNKNOWN);
            }
        }
    }

    // ---- Promise 21

    /** "The sum over papers of how many CANDIDATES not withdrawn they prefer it to." */
    private static void points() {
        SeatCounts x = house();
        due.is("points(0)", x.points(0), 10 * 3 + 7);
        due.is("points(1)", x.points(1), 10 * 2 + 7 * 3);
        due.is("points(2)", x.points(2), 7 * 2 + 4 * 3);
        due.is("points(3)", x.points(3), 0);
        due.is("no PILES", new SeatCounts().points(0), 0);
        x.candidates(1);
        x.pile(0x1, 5);
        due.is("there is no other one", x.points(0), 0);
    }

    private static void pointsOfWithdrawn() {
        SeatCounts x = house();
        x.withdraw(0, true);
        due.is("not over a withdrawn one", x.points(1), 10 * 2 + 7 * 2);
        due.is("nor over one that is not preferred", x.points(2), 7 + 4 * 2);
        due.is("of a withdrawn one", x.points(0), 10 * 3 + 7);
        x.withdraw(1, true);
        x.withdraw(2, true);
        x.withdraw(3, true);
        due.is("all are withdrawn", x.points(1), 0);
    }

    /** "UNKNOWN." */
    private static void pointsUnknown() {
        for (int n = 1; n <= 12; n++) {
            SeatCounts x = new SeatCounts();
            x.candidates(n);
            x.pile(n, 1);
            due.is("the last", x.points(n - 1), n - 1);
            for (int c : new int[] {-1, n, MIN, MAX}) {
                due.is("points(" + c + ") of " + n, x.points(c), UNKNOWN);
            }
        }
    }

    /** 80 PILES of 500 papers: 40000 prefer 0 to each of 11. */
    private static void mostPapers() {
        SeatCounts x = new SeatCounts();
        x.candidates(12);
        for (int k = 0; k < 80; k++) {
            x.pile(0xCBA987654321L, 500);
        }
        due.is("prefer(0, 11)", x.prefer(0, 11), 40000);
        due.is("prefer(11, 0)", x.prefer(11, 0), 0);
        due.is("points(0)", x.points(0), 440000);
        due.is("points(11)", x.points(11), 0);
        due.is("leads(0)", x.leads(0), 11);
        due.is("winner()", x.winner(), 0);
    }
}
