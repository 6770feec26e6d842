/** Promises 8 to 12 and 14 by RULES 0 to 2; the numbers are reckoned by hand from the document. */
public final class PaperCountTest {
    private static final int NONE = SeatCounts.NONE;
    private static final Due due = new Due("PaperCountTest");

    public static void main(String[] args) {
        oneSurplusThenOut();
        twoSurplusesByEachRule();
        lastParcelsBelowSurplus();
        lastParcelsWithoutNext();
        lastParcelsOfLikeWorth();
        lastParcelOfOnePaper();
        rowsUsedAgain();
        surplusesInOrder();
        tiesByLots();
        tiesByLatestStage();
        tiesOfElected();
        withdrawnOnes();
        due.end();
    }

    /** 120 papers for 2 seats: QUOTA 41; 0 has 60, so the surplus is 19. */
    private static SeatCounts oneSurplus(int rule) {
        SeatCounts x = new SeatCounts();
        x.candidates(4);
        x.pile(0x321, 50);
        x.pile(0x1, 10);
        x.pile(0x32, 20);
        x.pile(0x3, 22);
        x.pile(0x14, 18);
        due.is("count(" + rule + ", 2)", x.count(rule, 2), 4);
        return x;
    }

    private static void oneSurplusThenOut() {
        for (int rule = 0; rule < 2; rule++) {
            String at = "one surplus, rule " + rule;
            SeatCounts x = oneSurplus(rule);
            due.stage(at, x, 0, 0, NONE, 0, 0, 1, 4100000, 0);
            due.votes(at, x, 0, 6000000, 2000000, 2200000, 1800000);
            due.status(at, x, 0, 1, 0, 0, 0);
            due.stage(at, x, 1, 1, 0, 316660, 40, 1, 4100000, 0);
            due.votes(at, x, 1, 4100000, 3583300, 2200000, 1800000);
            due.lies(at, x, 0, 1, 0, 100000);
            due.lies(at, x, 1, 0, 1, 31666);
            due.lies(at, x, 1, 1, NONE, 0);
            due.lies(at, x, 1, 2, 1, 100000);
            due.stage(at, x, 2, 2, 3, 2116660, 40, 1, 4100000, 0);
            due.status(at, x, 2, 1, 0, 0, 2);
            due.lies(at, x, 2, 4, NONE, 0);
            due.stage(at, x, 3, 2, 2, 4316660, 40, 2, 4100000, 0);
            due.votes(at, x, 3, 4100000, 3583300, 0, 0);
            due.status(at, x, 3, 1, 1, 2, 2);
            due.elected(at, x, 0, 1);
        }
        String at = "one surplus, rule 2";
        SeatCounts x = oneSurplus(2);
        due.stage(at, x, 1, 1, 0, 0, 0, 1, 4100000, 0);
        due.votes(at, x, 1, 4100000, 3900000, 2200000, 1800000);
        due.lies(at, x, 1, 0, 1, 38000);
        due.lies(at, x, 1, 1, 0, 100000);
        due.stage(at, x, 3, 2, 2, 4000000, 0, 2, 4100000, 0);
        due.elected(at, x, 0, 1);
    }

    /** 120 papers for 3 seats: QUOTA 31. 0 passes 29 on to 1, which passes a mix of values on. */
    private static SeatCounts twoSurpluses(int rule) {
        SeatCounts x = new SeatCounts();
        x.candidates(4);
        x.pile(0x321, 60);
        x.pile(0x32, 20);
        x.pile(0x2, 10);
        x.pile(0x3, 12);
        x.pile(0x4, 18);
        due.is("two surpluses, count(" + rule + ", 3)", x.count(rule, 3), 3);
        due.stage("two surpluses, rule " + rule, x, 1, 1, 0, 0, 20, 2, 3100000, 0);
        due.votes("two surpluses, rule " + rule, x, 1, 3100000, 5899980, 1200000, 1800000);
        due.elected("two surpluses, rule " + rule, x, 0, 1, 2);
        return x;
    }

    private static void twoSurplusesByEachRule() {
        SeatCounts x = twoSurpluses(0);
        due.stage("rule 0", x, 2, 1, 1, 474570, 70, 3, 3100000, 0);
        due.votes("rule 0", x, 2, 3100000, 3100000, 3525360, 1800000);
        due.lies("rule 0", x, 2, 0, 2, 22937);
        due.lies("rule 0", x, 2, 1, 2, 47457);
        due.lies("rule 0", x, 2, 2, NONE, 0);

        x = twoSurpluses(1);
        due.stage("rule 1", x, 2, 1, 1, 311100, 100, 3, 3100000, 0);
        due.votes("rule 1", x, 2, 3100000, 3100000, 3688800, 1800000);
        due.lies("rule 1", x, 2, 0, 2, 31110);
        due.lies("rule 1", x, 2, 1, 2, 31110);
        due.lies("rule 1", x, 2, 2, NONE, 0);

        x = twoSurpluses(2);
        due.stage("rule 2", x, 2, 1, 1, 0, 40, 3, 3100000, 0);
        due.votes("rule 2", x, 2, 3100000, 3100000, 3999960, 1800000);
        due.lies("rule 2", x, 2, 0, 2, 46666);
        due.lies("rule 2", x, 2, 1, 1, 100000);
        due.lies("rule 2", x, 2, 2, 1, 100000);
    }

    /**
     * QUOTA 31. At STAGE 1 1 gets 55 papers without a next one and 5 with, at 48333; 5 x 48333 is
     * below the surplus of 2799980, so they keep their value and the rest is NOT TRANSFERABLE.
     */
    private static void lastParcelsBelowSurplus() {
        SeatCounts x = new SeatCounts();
        x.candidates(4);
        x.pile(0x21, 55);
        x.pile(0x321, 5);
        x.pile(0x32, 30);
        x.pile(0x3, 12);
        x.pile(0x4, 18);
        due.is("below surplus, count(2, 3)", x.count(2, 3), 4);
        due.votes("below surplus", x, 1, 3100000, 5899980, 1200000, 1800000);
        due.stage("below surplus", x, 2, 1, 1, 2558315, 20, 2, 3100000, 0);
        due.votes("below surplus", x, 2, 3100000, 3100000, 1441665, 1800000);
        due.lies("below surplus", x, 2, 0, 1, 48333);
        due.lies("below surplus", x, 2, 1, 2, 48333);
        due.lies("below surplus", x, 2, 2, 1, 100000);
        due.stage("below surplus", x, 3, 2, 2, 3999980, 20, 3, 3100000, 0);
        due.elected("below surplus", x, 0, 1, 3);
    }

    /** 30 papers for 0 alone, QUOTA 41 / 3 and 1 = 14: the whole surplus of 16 has nowhere to go. */
    private static void lastParcelsWithoutNext() {
        for (int rule = 0; rule < 3; rule++) {
            String at = "no next one, rule " + rule;
            SeatCounts x = new SeatCounts();
            x.candidates(4);
            x.pile(0x1, 30);
            x.pile(0x2, 5);
            x.pile(0x3, 6);
            due.is(at, x.count(rule, 2), 4);
            long value = 1600000 / 30;
            long stuck = rule == 2 ? 1600000 : 30 * value;
            due.stage(at, x, 1, 1, 0, stuck, 1600000 - stuck, 1, 1400000, 0);
            due.votes(at, x, 1, 1400000, 500000, 600000, 0);
            due.lies(at, x, 1, 0, rule == 2 ? 0 : NONE, rule == 2 ? 100000 : 0);
            due.is(at + ": who has nothing goes OUT first", x.stage(2, 1), 3);
            due.is(at + ": then the next", x.stage(3, 1), 1);
            due.elected(at, x, 0, 2);
        }
    }

    /**
     * QUOTA 20. 3 goes OUT at STAGE 3 and brings 1 4 papers at 50000 and 3 at 100000 that go on to
     * 2, and one that does not. Together those 7 are worth the surplus of 5: not above it, so each
     * goes with its own value, and nothing is added to what is NOT TRANSFERABLE since STAGE 2.
     */
    private static void lastParcelsOfLikeWorth() {
        SeatCounts x = new SeatCounts();
        x.candidates(7);
        x.pile(0x7, 1);
        x.pile(0x3241, 4);
        x.pile(0x51, 36);
        x.pile(0x324, 3);
        x.pile(0x24, 1);
        x.pile(0x2, 19);
        x.pile(0x3, 7);
        x.pile(0x6, 8);
        due.is("like worth", x.count(2, 3), 7);
        due.stage("like worth", x, 1, 1, 0, 0, 0, 1, 2000000, 0);
        due.votes("like worth", x, 1, 2000000, 1900000, 700000, 600000, 1800000, 800000, 100000);
        due.stage("like worth", x, 2, 2, 6, 100000, 0, 1, 2000000, 0);
        due.stage("like worth", x, 3, 2, 3, 100000, 0, 2, 2000000, 0);
        due.votes("like worth", x, 3, 2000000, 2500000, 700000, 0, 1800000, 800000, 0);
        due.lies("like worth", x, 3, 1, 1, 50000);
        due.stage("like worth", x, 4, 1, 1, 100000, 0, 2, 2000000, 0);
        due.votes("like worth", x, 4, 2000000, 2000000, 1200000, 0, 1800000, 800000, 0);
        due.lies("like worth", x, 4, 1, 2, 50000);
        due.lies("like worth", x, 4, 3, 2, 100000);
        due.lies("like worth", x, 4, 4, 1, 100000);
        due.lies("like worth", x, 4, 5, 1, 100000);
        due.stage("like worth", x, 6, 2, 2, 2100000, 0, 3, 2000000, 0);
        due.lies("like worth", x, 6, 1, NONE, 0);
        due.elected("like worth", x, 0, 1, 4);
    }

    /** QUOTA 20. 1 has 19.5 till 3 goes OUT and brings one paper, which goes on with the half that is over. */
    private static void lastParcelOfOnePaper() {
        SeatCounts x = new SeatCounts();
        x.candidates(6);
        x.pile(0x21, 39);
        x.pile(0x31, 1);
        x.pile(0x3, 2);
        x.pile(0x324, 1);
        x.pile(0x5, 17);
        x.pile(0x6, 19);
        due.is("one paper", x.count(2, 3), 6);
        due.votes("one paper", x, 1, 2000000, 1950000, 250000, 100000, 1700000, 1900000);
        due.votes("one paper", x, 2, 2000000, 2050000, 250000, 0, 1700000, 1900000);
        due.stage("one paper", x, 3, 1, 1, 0, 0, 2, 2000000, 0);
        due.votes("one paper", x, 3, 2000000, 2000000, 300000, 0, 1700000, 1900000);
        due.lies("one paper", x, 3, 3, 2, 50000);
        due.lies("one paper", x, 3, 0, 1, 50000);
        due.stage("one paper", x, 4, 2, 2, 300000, 0, 2, 2000000, 0);
        due.elected("one paper", x, 0, 1, 5);
    }

    /** A COUNT tells nothing of the one ahead of it, whichever RULE that was by. */
    private static void rowsUsedAgain() {
        for (int ahead = 0; ahead < 4; ahead++) {
            for (int rule = 0; rule < 2; rule++) {
                String at = "rule " + rule + " behind rule " + ahead;
                SeatCounts x = new SeatCounts();
                x.candidates(4);
                x.pile(0x321, 50);
                x.pile(0x1, 10);
                x.pile(0x32, 20);
                x.pile(0x3, 22);
                x.pile(0x14, 18);
                x.count(ahead, 2);
                due.is(at, x.count(rule, 2), 4);
                due.stage(at, x, 0, 0, NONE, 0, 0, 1, 4100000, 0);
                due.stage(at, x, 1, 1, 0, 316660, 40, 1, 4100000, 0);
                due.stage(at, x, 3, 2, 2, 4316660, 40, 2, 4100000, 0);
                due.lies(at, x, 0, 0, 0, 100000);
                due.lies(at, x, 0, 4, 3, 100000);
                due.elected(at, x, 0, 1);
                x.withdraw(2, true);
                due.is(at, x.count(rule, 3), 1);
                due.lies(at, x, 0, 3, NONE, 0);
                due.lies(at, x, 0, 2, 1, 100000);
            }
        }
    }

    /**
     * The larger surplus goes first, though the other one has the lower number and LOT. By RULE 2 the other
     * one's latest parcel is that of STAGE 0 still, though papers came to 3 at STAGE 1.
     */
    private static void surplusesInOrder() {
        for (int rule = 0; rule < 3; rule++) {
            String at = "two at once, rule " + rule;
            SeatCounts x = new SeatCounts();
            x.candidates(6);
            x.pile(0x31, 30);
            x.pile(0x42, 40);
            x.pile(0x5, 10);
            x.pile(0x6, 10);
            due.is(at, x.count(rule, 3), 6);
            due.is(at + ": QUOTA", x.stage(0, 5), 2300000);
            due.elected(at, x, 1, 0, 3);
            due.stage(at, x, 1, 1, 1, 0, 0, 2, 2300000, 0);
            due.votes(at, x, 1, 3000000, 2300000, 0, 1700000, 1000000, 1000000);
            due.lies(at, x, 1, 0, 0, 100000);
            due.lies(at, x, 1, 1, 3, 42500);
            due.stage(at, x, 2, 1, 0, 0, 10, 2, 2300000, 0);
            due.votes(at, x, 2, 2300000, 2300000, 699990, 1700000, 1000000, 1000000);
            due.lies(at, x, 2, 0, 2, 23333);
            due.is(at + ": who goes OUT", x.stage(3, 1), 2);
            due.is(at + ": of two alike", x.stage(4, 1), 5);
            due.is(at + ": and then", x.stage(5, 1), 4);
        }
    }

    private static void tiesByLots() {
        for (int rule = 0; rule < 4; rule++) {
            SeatCounts x = new SeatCounts();
            x.candidates(4);
            x.pile(0x1, 5);
            x.pile(0x2, 5);
            x.pile(0x3, 5);
            x.pile(0x4, 5);
            x.lot(1, 0);
            x.lot(3, 1);
            due.is("LOTS, rule " + rule, x.count(rule, 2), 3);
            int ahead = rule == 3 ? 0 : 1;
            due.is("LOTS 3, 0, 2, 1, OUT first, rule " + rule, x.stage(ahead, 1), 0);
            due.is("OUT next, rule " + rule, x.stage(ahead + 1, 1), 2);
            due.elected("LOTS, rule " + rule, x, 1, 3);
        }
    }

    /**
     * 1 and 2 have 6 each behind STAGE 2. Behind STAGE 1 2 had more (6, 5), behind STAGE 0 1 had
     * (5, 4), as by LOTS: the latest one counts. RULE 3 has LOTS alone.
     */
    private static void tiesByLatestStage() {
        for (int rule = 0; rule < 4; rule++) {
            String at = "latest stage, rule " + rule;
            SeatCounts x = new SeatCounts();
            x.candidates(5);
            x.pile(0x1, 12);
            x.pile(0x2, 5);
            x.pile(0x3, 4);
            x.pile(0x34, 2);
            x.pile(0x25, 1);
            x.pile(0x5, 2);
            int stages = x.count(rule, 1);
            int shift = rule == 3 ? 1 : 0;
            due.is(at + ": first OUT", x.stage(1 - shift, 1), 3);
            due.is(at + ": second OUT", x.stage(2 - shift, 1), 4);
            due.is(at + ": like votes", x.votes(2, 1), x.votes(2, 2));
            due.is(at + ": third OUT", x.stage(3 - shift, 1), rule == 3 ? 2 : 1);
            due.elected(at, x, 0);
            due.is(at + ": stages", stages, rule == 3 ? 4 : 5);
        }
    }

    /** 0 and 1 both get 61 at STAGE 1; 1 had more behind STAGE 0, so it is first, and its surplus, too. */
    private static void tiesOfElected() {
        SeatCounts x = new SeatCounts();
        x.candidates(6);
        x.pile(0x1, 50);
        x.pile(0x2, 51);
        x.pile(0x13, 11);
        x.pile(0x23, 10);
        x.pile(0x4, 30);
        x.pile(0x5, 30);
        x.pile(0x6, 30);
        due.is("212 papers, 3 seats", x.count(0, 3), 6);
        due.stage("ties of elected", x, 1, 2, 2, 0, 0, 2, 5400000, 0);
        due.votes("ties of elected", x, 1, 6100000, 6100000, 0, 3000000, 3000000, 3000000);
        due.stage("ties of elected", x, 2, 1, 1, 699975, 25, 2, 5400000, 0);
        due.stage("ties of elected", x, 3, 1, 0, 1399950, 50, 2, 5400000, 0);
        due.elected("ties of elected", x, 1, 0, 3);

        x = new SeatCounts();
        x.candidates(6);
        x.pile(0x41, 8);
        x.pile(0x42, 8);
        x.pile(0x3, 1);
        x.pile(0x5, 3);
        x.lot(1, 0);
        x.count(0, 3);
        due.elected("like at STAGE 0: LOTS", x, 1, 0, 3);
        due.is("whose surplus is first", x.stage(1, 1), 1);
        due.is("whose is next", x.stage(2, 1), 0);
    }

    private static void withdrawnOnes() {
        for (int rule = 0; rule < 3; rule++) {
            String at = "withdrawn, rule " + rule;
            SeatCounts x = new SeatCounts();
            x.candidates(4);
            x.pile(0x21, 9);
            x.pile(0x1, 50);
            x.pile(0x3, 4);
            x.pile(0x14, 3);
            x.withdraw(0, true);
            due.is(at, x.count(rule, 1), 1);
            due.stage(at, x, 0, 0, NONE, 0, 0, 1, 900000, 0);
            due.votes(at, x, 0, 0, 900000, 400000, 300000);
            due.status(at, x, 0, 3, 1, 0, 0);
            due.lies(at, x, 0, 0, 1, 100000);
            due.lies(at, x, 0, 1, NONE, 0);
            x.withdraw(0, false);
            due.is(at + ": as it was then", x.status(0, 0), 3);
        }
    }
}
