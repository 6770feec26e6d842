/**
 * The edges of a COUNT by RULES 0 to 2, a test for each sentence of the document that has one. All
 * numbers are reckoned by hand. Where nothing else is said the three RULES tell the same.
 */
public final class PaperEdgesTest {
    private static final int NONE = SeatCounts.NONE;
    private static final Due due = new Due("PaperEdgesTest");

    public static void main(String[] args) {
        quotaIsCut();
        quotaOfNoPapers();
        quotaOfValidPilesAlone();
        oneUnitShortOfQuota();
        quotaExactly();
        oneUnitAboveQuota();
        fewestByOneUnit();
        electedFirstByOneUnit();
        asManyAsSeats();
        oneMoreThanSeats();
        fewerThanSeats();
        electedAndHopefulTogether();
        endsWithHopefulOnes();
        onlyOneCandidate();
        mostStages();
        likeBehindAllStages();
        unlikeBehindStageZeroAlone();
        nextOne();
        nothingButNotTransferable();
        valueIsCut();
        alikeByPapersWithoutNext();
        worthOneUnitAboveSurplus();
        worthAsSurplus();
        worthBelowSurplus();
        parcelWithoutNextThoughEarlierHaveOne();
        outWithoutPiles();
        due.end();
    }

    private static SeatCounts house(int candidates, long... piles) {
        SeatCounts x = new SeatCounts();
        x.candidates(candidates);
        for (int k = 0; k < piles.length; k += 2) {
            due.is("pile " + k / 2, x.pile(piles[k], (int) piles[k + 1]), k / 2);
        }
        return x;
    }

    /** "QUOTA: the papers of VALID PILES by seats and 1, cut, and 1, times 100000." */
    private static void quotaIsCut() {
        int[][] papersSeatsQuota = {
            {1, 1, 1}, {2, 1, 2}, {3, 1, 2}, {4, 1, 3}, {11, 3, 3}, {12, 3, 4}, {13, 3, 4},
            {12, 12, 1}, {13, 12, 2}, {25, 12, 2}, {26, 12, 3}, {500, 1, 251}, {500, 12, 39},
        };
        for (int[] q : papersSeatsQuota) {
            for (int rule = 0; rule < 3; rule++) {
                SeatCounts x = house(3, 0x1, q[0]);
                x.count(rule, q[1]);
                due.is(q[0] + " papers, " + q[1] + " seats, rule " + rule, x.stage(0, 5), q[2] * 100000L);
            }
        }
    }

    /** None by anything is 0, and 1: whoever has no votes is below QUOTA. */
    private static void quotaOfNoPapers() {
        for (int rule = 0; rule < 3; rule++) {
            for (int seats = 1; seats < 3; seats++) {
                SeatCounts x = new SeatCounts();
                due.is("no papers", x.count(rule, seats), 4 - seats);
                due.stage("no papers", x, 0, 0, NONE, 0, 0, 0, 100000, 0);
                due.status("no papers", x, 0, 0, 0, 0);
                due.stage("no papers", x, 1, 2, 2, 0, 0, seats == 2 ? 2 : 0, 100000, 0);
            }
        }
    }

    /** A PILE of withdrawn ones does not count, nor is it NOT TRANSFERABLE. */
    private static void quotaOfValidPilesAlone() {
        for (int rule = 0; rule < 3; rule++) {
            SeatCounts x = house(3, 0x1, 500, 0x21, 3);
            x.withdraw(0, true);
            due.is("VALID alone", x.count(rule, 1), 1);
            due.stage("VALID alone", x, 0, 0, NONE, 0, 0, 1, 200000, 0);
            due.votes("VALID alone", x, 0, 0, 300000, 0);
            due.lies("VALID alone", x, 0, 0, NONE, 0);
            due.lies("VALID alone", x, 0, 1, 1, 100000);
            x.withdraw(1, true);
            due.is("none VALID", x.count(rule, 1), 1);
            due.stage("none VALID", x, 0, 0, NONE, 0, 0, 1, 100000, 0);
            due.votes("none VALID", x, 0, 0, 0, 0);
            due.lies("none VALID", x, 0, 1, NONE, 0);
            due.elected("none VALID", x, 2);
        }
    }

    /** QUOTA 4; 0 passes 2 of its 6 on, 33333 a paper: 1 has 3 and 99999, 1 unit less than QUOTA. */
    private static void oneUnitShortOfQuota() {
        for (int rule = 0; rule < 3; rule++) {
            String at = "one short, rule " + rule;
            SeatCounts x = house(4, 0x21, 3, 0x31, 3, 0x2, 3, 0x4, 2);
            due.is(at, x.count(rule, 2), 4);
            due.stage(at, x, 1, 1, 0, 0, 2, 1, 400000, 0);
            due.votes(at, x, 1, 400000, 399999, 99999, 200000);
            due.status(at, x, 1, 1, 0, 0, 0);
            due.stage(at, x, 2, 2, 2, 99999, 2, 1, 400000, 0);
            due.stage(at, x, 3, 2, 3, 299999, 2, 2, 400000, 0);
            due.votes(at, x, 3, 400000, 399999, 0, 0);
            due.elected(at, x, 0, 1);
        }
    }

    /** "HOPEFUL ones with QUOTA or more are ELECTED"; a SURPLUS is "more than QUOTA", and 0 has none. */
    private static void quotaExactly() {
        for (int rule = 0; rule < 3; rule++) {
            String at = "QUOTA exactly, rule " + rule;
            SeatCounts x = house(3, 0x21, 4, 0x2, 2, 0x3, 3);
            due.is(at, x.count(rule, 2), 2);
            due.stage(at, x, 0, 0, NONE, 0, 0, 1, 400000, 0);
            due.status(at, x, 0, 1, 0, 0);
            due.stage(at, x, 1, 2, 1, 200000, 0, 2, 400000, 0);
            due.lies(at, x, 1, 0, 0, 100000);
            due.elected(at, x, 0, 2);
        }
    }

    /**
     * QUOTA 365; 0 passes 19 of its 384 on, 4947 a paper. 283 of them make 1400001 for 1, which had 351:
     * 1 unit more than QUOTA, so it has a SURPLUS of 1. Its papers go on with 0 each by RULES 0 and 1. By
     * RULE 2 the latest of them have no NEXT one: that unit is NOT TRANSFERABLE, all stay.
     */
    private static void oneUnitAboveQuota() {
        for (int rule = 0; rule < 3; rule++) {
            String at = "one above, rule " + rule;
            SeatCounts x = house(5, 0x21, 283, 0x31, 101, 0x32, 200, 0x2, 151, 0x3, 350, 0x4, 363, 0x5, 10);
            due.is(at, x.count(rule, 3), 5);
            due.stage(at, x, 1, 1, 0, 0, 352, 2, 36500000, 0);
            due.votes(at, x, 1, 36500000, 36500001, 35499647, 36300000, 1000000);
            due.status(at, x, 1, 1, 1, 0, 0, 0);
            int stuck = rule == 2 ? 1 : 0;
            due.stage(at, x, 2, 1, 1, stuck, 353 - stuck, 2, 36500000, 0);
            due.votes(at, x, 2, 36500000, 36500000, 35499647, 36300000, 1000000);
            due.lies(at, x, 2, 0, rule == 2 ? 1 : NONE, rule == 2 ? 4947 : 0);
            due.lies(at, x, 2, 2, rule == 2 ? 1 : 2, rule == 2 ? 100000 : 0);
            due.lies(at, x, 2, 3, rule == 2 ? 1 : NONE, rule == 2 ? 100000 : 0);
            due.stage(at, x, 3, 2, 4, 1000000 + stuck, 353 - stuck, 2, 36500000, 0);
            due.stage(at, x, 4, 2, 2, 36499647 + stuck, 353 - stuck, 3, 36500000, 0);
            due.lies(at, x, 4, 2, rule == 2 ? 1 : NONE, rule == 2 ? 100000 : 0);
            due.elected(at, x, 0, 1, 3);
        }
    }

    /** As above, 2 has 1400001 and 1 has 1400000: that is less, though 1 had more ahead and a lower LOT. */
    private static void fewestByOneUnit() {
        for (int rule = 0; rule < 3; rule++) {
            String at = "fewest, rule " + rule;
            SeatCounts x = house(6, 0x31, 283, 0x61, 101, 0x2, 14, 0x4, 364, 0x5, 364, 0x6, 332);
            due.is(at, x.count(rule, 3), 5);
            due.votes(at, x, 1, 36500000, 1400000, 1400001, 36400000, 36400000, 33699647);
            due.stage(at, x, 2, 2, 1, 1400000, 352, 1, 36500000, 0);
            due.stage(at, x, 3, 2, 2, 2800001, 352, 1, 36500000, 0);
            due.stage(at, x, 4, 2, 5, 36499648, 352, 3, 36500000, 0);
            due.elected(at, x, 0, 3, 4);
        }
    }

    /** "all HOPEFUL ones are ELECTED, the one with more votes first": 2 with 1400001 ahead of 1 with 1400000. */
    private static void electedFirstByOneUnit() {
        for (int rule = 0; rule < 3; rule++) {
            String at = "first, rule " + rule;
            SeatCounts x = house(5, 0x31, 283, 0x51, 101, 0x2, 14, 0x4, 500, 0x4, 500, 0x4, 421, 0x5, 1);
            due.is(at, x.count(rule, 4), 4);
            long stuck = rule == 2 ? 105600000 : 105598773;
            due.stage(at, x, 1, 1, 3, stuck, 105600000 - stuck, 2, 36500000, 0);
            due.stage(at, x, 2, 1, 0, stuck, 105600352 - stuck, 2, 36500000, 0);
            due.votes(at, x, 2, 36500000, 1400000, 1400001, 36500000, 599647);
            due.stage(at, x, 3, 2, 4, stuck + 599647, 105600352 - stuck, 4, 36500000, 0);
            due.elected(at, x, 3, 0, 2, 1);
        }
    }

    /** "if no more are HOPEFUL and ELECTED together than there are seats": as many are no more. */
    private static void asManyAsSeats() {
        for (int rule = 0; rule < 3; rule++) {
            String at = "as many, rule " + rule;
            SeatCounts x = house(4, 0x2, 1, 0x3, 1, 0x4, 9);
            x.withdraw(3, true);
            due.is(at, x.count(rule, 3), 1);
            due.stage(at, x, 0, 0, NONE, 0, 0, 3, 100000, 0);
            due.status(at, x, 0, 1, 1, 1, 3);
            due.elected(at, x, 1, 2, 0);
            x.candidates(12);
            due.is(at + ", 12 of 12", x.count(rule, 12), 1);
            due.elected(at + ", 12 of 12", x, 0, 1, 2, 3, 4, 5, 6, 7, 8, 9, 10, 11);
        }
    }

    /** One more is too many: one goes OUT first. */
    private static void oneMoreThanSeats() {
        for (int rule = 0; rule < 3; rule++) {
            String at = "one more, rule " + rule;
            SeatCounts x = house(3, 0x2, 1, 0x3, 1);
            due.is(at, x.count(rule, 2), 1);
            due.elected(at, x, 1, 2);
            x.candidates(3);
            x.pile(0x2, 5);
            x.pile(0x3, 5);
            x.pile(0x1, 5);
            due.is(at + ", none has QUOTA", x.count(rule, 2), 2);
            due.stage(at, x, 0, 0, NONE, 0, 0, 0, 600000, 0);
            due.stage(at, x, 1, 2, 2, 500000, 0, 2, 600000, 0);
            due.elected(at, x, 0, 1);
            x.candidates(12);
            due.is(at + ", 12 for 11", x.count(rule, 11), 2);
            due.is(at + ", who is OUT", x.stage(1, 1), 11);
            due.elected(at + ", 12 for 11", x, 0, 1, 2, 3, 4, 5, 6, 7, 8, 9, 10);
        }
    }

    /** "If none is HOPEFUL then .. it ends", though seats are left. */
    private static void fewerThanSeats() {
        for (int rule = 0; rule < 3; rule++) {
            for (int seats = 4; seats <= 12; seats++) {
                String at = seats + " seats for 3, rule " + rule;
                SeatCounts x = house(3, 0x21, 50, 0x3, 1);
                due.is(at, x.count(rule, seats), 1);
                due.status(at, x, 0, 1, 1, 1);
                due.elected(at, x, 0, 2, 1);
            }
        }
    }

    /** "HOPEFUL and ELECTED together": 1 ELECTED and 2 HOPEFUL are 3; who has QUOTA comes first. */
    private static void electedAndHopefulTogether() {
        for (int rule = 0; rule < 3; rule++) {
            String at = "together, rule " + rule;
            SeatCounts x = house(4, 0x1, 1, 0x2, 9, 0x3, 2);
            due.is(at + ", 3 seats for 4", x.count(rule, 3), 3);
            due.stage(at, x, 0, 0, NONE, 0, 0, 1, 400000, 0);
            long stuck = rule == 2 ? 500000 : 9 * (500000 / 9);
            due.stage(at, x, 1, 1, 1, stuck, 500000 - stuck, 1, 400000, 0);
            due.stage(at, x, 2, 2, 3, stuck, 500000 - stuck, 3, 400000, 0);
            due.elected(at, x, 1, 2, 0);
        }
    }

    /** "or as many are ELECTED as there are seats, it ends": no SURPLUS then, and the others stay HOPEFUL. */
    private static void endsWithHopefulOnes() {
        for (int rule = 0; rule < 3; rule++) {
            String at = "ends, rule " + rule;
            SeatCounts x = house(4, 0x21, 50, 0x3, 1);
            due.is(at, x.count(rule, 1), 1);
            due.votes(at, x, 0, 5000000, 0, 100000, 0);
            due.status(at, x, 0, 1, 0, 0, 0);
            due.elected(at, x, 0);
        }
    }

    /** n is 1: it is ELECTED at once, with papers or without, for any seats. */
    private static void onlyOneCandidate() {
        for (int rule = 0; rule < 3; rule++) {
            for (int seats = 1; seats <= 12; seats += 11) {
                SeatCounts x = house(1);
                due.is("one, no papers", x.count(rule, seats), 1);
                due.elected("one, no papers", x, 0);
                x.pile(0x1, 500);
                due.is("one", x.count(rule, seats), 1);
                due.votes("one", x, 0, 50000000);
                due.elected("one", x, 0);
            }
        }
    }

    /** 12 CANDIDATES, 1 seat: 11 go OUT, each with nothing; none is ELECTED till one is left. */
    private static void mostStages() {
        for (int rule = 0; rule < 3; rule++) {
            SeatCounts x = house(12, 0x1, 1, 0x2, 1);
            due.is("12 stages", x.count(rule, 1), 12);
            for (int i = 1; i < 12; i++) {
                due.is("OUT at " + i, x.stage(i, 1), 12 - i);
                due.is("ELECTED behind " + i, x.stage(i, 4), i == 11 ? 1 : 0);
            }
            due.stage("12 stages", x, 11, 2, 1, 100000, 0, 1, 200000, 0);
            due.elected("12 stages", x, 0);
        }
    }

    /** "TIES: .. if there is none: the one with the lower LOT": 3 goes OUT first, then LOTS tell 0 from 1 and 2. */
    private static void likeBehindAllStages() {
        for (int rule = 0; rule < 3; rule++) {
            String at = "like, rule " + rule;
            SeatCounts x = house(4, 0x1, 5, 0x2, 5, 0x3, 5, 0x4, 1);
            x.lot(0, 3);
            x.lot(2, 1);
            due.is(at, x.count(rule, 1), 4);
            due.is(at + ": fewest", x.stage(1, 1), 3);
            due.is(at + ": LOTS 3, 2, 1", x.stage(2, 1), 0);
            due.is(at + ": LOTS 2, 1", x.stage(3, 1), 1);
            due.elected(at, x, 2);
        }
    }

    /**
     * "that had more behind the latest STAGE ahead behind which they had unlike ones": 1 and 2 have 5 each
     * behind STAGES 1 and 2, but 2 had 5 and 1 had 4 behind STAGE 0, so 1 goes OUT, though its LOT is lower.
     */
    private static void unlikeBehindStageZeroAlone() {
        for (int rule = 0; rule < 3; rule++) {
            String at = "unlike at 0, rule " + rule;
            SeatCounts x = house(5, 0x1, 8, 0x2, 4, 0x3, 5, 0x24, 1, 0x5, 2);
            due.is(at, x.count(rule, 1), 5);
            due.is(at + ": first OUT", x.stage(1, 1), 3);
            due.is(at + ": second OUT", x.stage(2, 1), 4);
            due.votes(at, x, 1, 800000, 500000, 500000, 0, 200000);
            due.votes(at, x, 2, 800000, 500000, 500000, 0, 0);
            due.is(at + ": third OUT", x.stage(3, 1), 1);
            due.is(at + ": last OUT", x.stage(4, 1), 2);
            due.elected(at, x, 0);
        }
    }

    /** "The NEXT one of a PILE is the first HOPEFUL one that it prefers": not OUT, ELECTED or withdrawn ones. */
    private static void nextOne() {
        for (int rule = 0; rule < 3; rule++) {
            String at = "NEXT, rule " + rule;
            SeatCounts x = house(6, 0x53216, 2, 0x1, 20, 0x2, 3, 0x4, 9, 0x5, 10);
            x.withdraw(2, true);
            // QUOTA 44 / 3 and 1 = 15: 0 has 20, 5 of which have no NEXT one
            due.is(at, x.count(rule, 2), 5);
            due.stage(at, x, 1, 1, 0, 500000, 0, 1, 1500000, 0);
            due.stage(at, x, 2, 2, 5, 500000, 0, 1, 1500000, 0);
            due.is(at + ": past 0, which is ELECTED", x.lies(2, 0, 0), 1);
            due.stage(at, x, 3, 2, 1, 800000, 0, 1, 1500000, 0);
            due.is(at + ": past 2, which is withdrawn", x.lies(3, 0, 0), 4);
            due.is(at + ": with the value that it had", x.lies(3, 0, 1), 100000);
            due.votes(at, x, 3, 1500000, 0, 0, 900000, 1200000, 0);
            due.stage(at, x, 4, 2, 3, 1700000, 0, 2, 1500000, 0);
            due.elected(at, x, 0, 4);
        }
    }

    /** "a PILE without one is NOT TRANSFERABLE": those behind that are all OUT, and those with nobody behind. */
    private static void nothingButNotTransferable() {
        for (int rule = 0; rule < 3; rule++) {
            String at = "not transferable, rule " + rule;
            SeatCounts x = house(4, 0x1, 9, 0x2, 8, 0x3, 2, 0x34, 1);
            due.is(at, x.count(rule, 1), 4);
            due.stage(at, x, 1, 2, 3, 0, 0, 0, 1100000, 0);
            due.lies(at, x, 1, 3, 2, 100000);
            due.stage(at, x, 2, 2, 2, 300000, 0, 0, 1100000, 0);
            due.lies(at, x, 2, 3, NONE, 0);
            due.lies(at, x, 2, 2, NONE, 0);
            due.stage(at, x, 3, 2, 1, 1100000, 0, 1, 1100000, 0);
            due.lies(at, x, 3, 3, NONE, 0);
            due.elected(at, x, 0);
        }
    }

    /** QUOTA 4, 0 has 6: 2 by 6 papers is 33333, cut; 2 units are LOST, also where nothing is transferable. */
    private static void valueIsCut() {
        for (int rule = 0; rule < 2; rule++) {
            String at = "cut, rule " + rule;
            SeatCounts x = house(4, 0x1, 6, 0x2, 2, 0x3, 1);
            due.is(at, x.count(rule, 2), 4);
            due.stage(at, x, 1, 1, 0, 199998, 2, 1, 400000, 0);
            due.lies(at, x, 1, 0, NONE, 0);
        }
    }

    /**
     * QUOTA 5, 0 has 8: 3 by 8 papers is 37500, and 4 of them have no NEXT one. RULE 2 looks at the other 4
     * alone: 3 by 4 is 75000.
     */
    private static void alikeByPapersWithoutNext() {
        for (int rule = 0; rule < 3; rule++) {
            String at = "papers, rule " + rule;
            SeatCounts x = house(3, 0x1, 4, 0x21, 4, 0x3, 4);
            due.is(at, x.count(rule, 2), 3);
            due.is(at + ": QUOTA", x.stage(0, 5), 500000);
            int value = rule == 2 ? 75000 : 37500;
            due.stage(at, x, 1, 1, 0, rule == 2 ? 0 : 150000, 0, 1, 500000, 0);
            due.votes(at, x, 1, 500000, 4 * value, 400000);
            due.lies(at, x, 1, 0, rule == 2 ? 0 : NONE, rule == 2 ? 100000 : 0);
            due.lies(at, x, 1, 1, 1, value);
        }
    }

    /**
     * RULE 2, "if W is above the surplus": QUOTA 4, 1 has 399999 till 2 goes OUT and brings one paper of
     * 100000, which is 1 unit more than the surplus of 99999.
     */
    private static void worthOneUnitAboveSurplus() {
        SeatCounts x = house(5, 0x21, 3, 0x41, 3, 0x2, 3, 0x423, 1, 0x4, 2, 0x5, 3);
        due.is("W above", x.count(2, 3), 5);
        due.votes("W above", x, 1, 400000, 399999, 100000, 299999, 300000);
        due.votes("W above", x, 2, 400000, 499999, 0, 299999, 300000);
        due.stage("W above", x, 3, 1, 1, 0, 2, 2, 400000, 0);
        due.votes("W above", x, 3, 400000, 400000, 0, 399998, 300000);
        due.lies("W above", x, 3, 3, 3, 99999);
        due.lies("W above", x, 3, 0, 1, 33333);
        due.lies("W above", x, 3, 2, 1, 100000);
        due.stage("W above", x, 4, 2, 4, 300000, 2, 3, 400000, 0);
        due.elected("W above", x, 0, 1, 3);
    }

    /**
     * RULE 2, "else they go there with the values that they have": QUOTA 6, 1 has 4 till 2 goes OUT and
     * brings 3 papers, one of which goes on. W is 1 and the surplus is 1: not above it.
     */
    private static void worthAsSurplus() {
        SeatCounts x = house(4, 0x2, 4, 0x23, 2, 0x423, 1, 0x4, 4, 0x1, 4);
        due.is("W as surplus", x.count(2, 2), 4);
        due.stage("W as surplus", x, 0, 0, NONE, 0, 0, 0, 600000, 0);
        due.stage("W as surplus", x, 1, 2, 2, 0, 0, 1, 600000, 0);
        due.votes("W as surplus", x, 1, 400000, 700000, 0, 400000);
        due.stage("W as surplus", x, 2, 1, 1, 0, 0, 1, 600000, 0);
        due.lies("W as surplus", x, 2, 2, 3, 100000);
        due.lies("W as surplus", x, 2, 1, 1, 100000);
        due.votes("W as surplus", x, 2, 400000, 600000, 0, 500000);
        due.stage("W as surplus", x, 3, 2, 0, 400000, 0, 2, 600000, 0);
        due.elected("W as surplus", x, 1, 3);
    }

    /** "and the surplus less W is NOT TRANSFERABLE": as above, but QUOTA is 5, so the surplus is 2, and W 1. */
    private static void worthBelowSurplus() {
        SeatCounts x = house(4, 0x2, 4, 0x23, 2, 0x423, 1, 0x4, 4, 0x1, 3);
        due.is("W below", x.count(2, 2), 3);
        due.stage("W below", x, 0, 0, NONE, 0, 0, 0, 500000, 0);
        due.votes("W below", x, 1, 300000, 700000, 0, 400000);
        due.stage("W below", x, 2, 1, 1, 100000, 0, 2, 500000, 0);
        due.lies("W below", x, 2, 2, 3, 100000);
        due.lies("W below", x, 2, 1, 1, 100000);
        due.votes("W below", x, 2, 300000, 500000, 0, 500000);
        due.elected("W below", x, 1, 3);
    }

    /** RULE 2: the latest parcel has no NEXT one; those that came ahead of it have, but stay where they are. */
    private static void parcelWithoutNextThoughEarlierHaveOne() {
        SeatCounts x = house(4, 0x42, 4, 0x23, 3, 0x4, 4, 0x1, 4);
        due.is("no NEXT", x.count(2, 2), 4);
        due.stage("no NEXT", x, 1, 2, 2, 0, 0, 1, 600000, 0);
        due.stage("no NEXT", x, 2, 1, 1, 100000, 0, 1, 600000, 0);
        due.votes("no NEXT", x, 2, 400000, 600000, 0, 400000);
        due.lies("no NEXT", x, 2, 0, 1, 100000);
        due.lies("no NEXT", x, 2, 1, 1, 100000);
        due.stage("no NEXT", x, 3, 2, 3, 500000, 0, 2, 600000, 0);
        due.elected("no NEXT", x, 1, 0);
    }

    /** "The CANDIDATE has 0 then", also if it had 0 ahead of it. */
    private static void outWithoutPiles() {
        for (int rule = 0; rule < 3; rule++) {
            SeatCounts x = house(3, 0x1, 5, 0x2, 5);
            due.is("without PILES", x.count(rule, 1), 3);
            due.stage("without PILES", x, 1, 2, 2, 0, 0, 0, 600000, 0);
            due.votes("without PILES", x, 1, 500000, 500000, 0);
            due.status("without PILES", x, 1, 0, 0, 2);
            due.stage("without PILES", x, 2, 2, 1, 500000, 0, 1, 600000, 0);
            due.votes("without PILES", x, 2, 500000, 0, 0);
        }
    }
}
