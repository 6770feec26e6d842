/** Promises 18 to 21: prefer, winner, leads, points. */
public final class PairsTest {
    private static final int NONE = SeatCounts.NONE, UNKNOWN = SeatCounts.UNKNOWN, STATE = SeatCounts.STATE;
    private static final Due due = new Due("PairsTest");

    public static void main(String[] args) {
        prefer();
        winner();
        cycle();
        chain();
        points();
        due.end();
    }

    private static void prefer() {
        SeatCounts x = new SeatCounts();
        x.candidates(4);
        x.pile(0x21, 10);
        x.pile(0x132, 7);
        x.pile(0x3, 4);
        due.is("0 to 1", x.prefer(0, 1), 10);
        due.is("1 to 0", x.prefer(1, 0), 7);
        due.is("0 to 2", x.prefer(0, 2), 10);
        due.is("2 to 0", x.prefer(2, 0), 11);
        due.is("one that nobody prefers", x.prefer(0, 3), 17);
        due.is("by that one", x.prefer(3, 0), 0);
        due.is("itself", x.prefer(1, 1), STATE);
        due.is("none with itself: UNKNOWN comes first", x.prefer(4, 4), UNKNOWN);
        due.is("prefer(0, 4)", x.prefer(0, 4), UNKNOWN);
        due.is("prefer(-1, 0)", x.prefer(-1, 0), UNKNOWN);
        x.withdraw(2, true);
        due.is("a withdrawn one is preferred, too", x.prefer(2, 0), 11);
        x.change(2, 500);
        due.is("papers of now, of a PILE that is not VALID, too", x.prefer(2, 0), 507);
    }

    private static void winner() {
        SeatCounts x = new SeatCounts();
        due.is("no PILES", x.winner(), NONE);
        x.pile(0x21, 3);
        x.pile(0x12, 3);
        due.is("alike", x.winner(), NONE);
        x.pile(0x12, 1);
        due.is("one more", x.winner(), 1);
        x.withdraw(1, true);
        due.is("it is withdrawn", x.winner(), 0);
        x.withdraw(0, true);
        due.is("one is left", x.winner(), 2);
        x.withdraw(2, true);
        due.is("none is left", x.winner(), NONE);
        x.candidates(1);
        due.is("there is but one", x.winner(), 0);
    }

    private static void cycle() {
        SeatCounts x = new SeatCounts();
        x.candidates(4);
        x.pile(0x321, 3);
        x.pile(0x132, 3);
        x.pile(0x213, 3);
        due.is("round and round", x.winner(), NONE);
        for (int c = 0; c < 3; c++) {
            due.is("leads to all, itself, too", x.leads(c), 4);
        }
        due.is("the last one leads to none", x.leads(3), 0);
        x.withdraw(1, true);
        due.is("2 is preferred to 0", x.winner(), 2);
        due.is("2 leads to 0 and 3", x.leads(2), 2);
        due.is("0 leads to 3, and not through one that is withdrawn", x.leads(0), 1);
        due.is("a withdrawn one leads to none", x.leads(1), 0);
        due.is("leads(4)", x.leads(4), UNKNOWN);
        due.is("leads(-1)", x.leads(-1), UNKNOWN);
    }

    /** 11 beats 10, 10 beats 9 and so on; all others are alike, so each leads on only through the next. */
    private static void chain() {
        SeatCounts x = new SeatCounts();
        x.candidates(12);
        for (int c = 1; c < 12; c++) {
            long upwards = 0;
            long downwards = 0;
            for (int other = 0; other < 12; other++) {
                if (other != c && other != c - 1) {
                    downwards = downwards << 4 | (other + 1);
                    upwards = upwards >> 4 | (long) (other + 1) << 36;
                }
            }
            long pair = (long) c << 4 | (c + 1);
            x.pile(upwards << 8 | pair, 5);
            x.pile(pair << 40 | downwards, 5);
        }
        due.is("the chain's piles", x.told(1), 22);
        for (int c = 0; c < 12; c++) {
            due.is("the chain, leads(" + c + ")", x.leads(c), c);
        }
    }

    private static void points() {
        SeatCounts x = new SeatCounts();
        x.candidates(4);
        x.pile(0x21, 10);
        x.pile(0x132, 7);
        due.is("points(0)", x.points(0), 10 * 3 + 7);
        due.is("points(1)", x.points(1), 10 * 2 + 7 * 3);
        due.is("points(2)", x.points(2), 7 * 2);
        due.is("points(3)", x.points(3), 0);
        due.is("points(4)", x.points(4), UNKNOWN);
        due.is("points(-1)", x.points(-1), UNKNOWN);
        x.withdraw(0, true);
        due.is("not over a withdrawn one", x.points(1), 10 * 2 + 7 * 2);
        due.is("of a withdrawn one", x.points(0), 10 * 3 + 7);
    }
}
