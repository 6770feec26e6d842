/**
 * The edges of a COUNT by RULE 3, a test for each sentence of the document that has one. The numbers are
 * reckoned by hand, but for those of electedBehindStage60, which is too long for that, and the ways to
 * STAGE 16 in keepWithoutVotes and to STAGE 15 in keepWithOneUnit.
 */
public final class KeepEdgesTest {
    private static final int NONE = SeatCounts.NONE, STATE = SeatCounts.STATE;
    private static final Due due = new Due("KeepEdgesTest");

    public static void main(String[] args) {
        paperIsAMillion();
        restIsCut();
        quotaIsCut();
        quotaOfNoPapers();
        quotaOfValidPilesAlone();
        oneUnitShortOfQuota();
        quotaExactly();
        asManyAsSeats();
        oneMoreThanSeats();
        fewerThanSeats();
        endsWithHopefulOnes();
        moreThanSeats();
        tiesByLotsAlone();
        keepOfOneThatIsOut();
        excessOf999();
        excessOf1000();
        likeExcessAtStage1();
        likeExcessBehindAnOut();
        excessBelowByOne();
        electedWithSmallExcess();
        electedWithLikeExcess();
        stage60();
        stage61();
        stage60BehindAnOut();
        electedBehindStage60();
        keepIsAMillionAtMost();
        keepWithoutVotes();
        keepWithOneUnit();
        due.end();
    }

    private static SeatCounts house(int candidates, long... piles) {
        SeatCounts x = new SeatCounts();
        x.candidates(candidates);
        for (int k = 0; k < piles.length; k += 2) {
            due.is("pile " + k / 2, x.pile(piles[k], (int) piles[k + 1]), k / 2);
        }
        return x;
    }

    private static void keeps(String where, SeatCounts x, int stage, int... want) {
        for (int c = 0; c < want.length; c++) {
            due.is(where + " keep(" + stage + ", " + c + ")", x.keep(stage, c), want[c]);
        }
    }

    /** "units of which 1000000 are a paper's", "a KEEP, 1000000 at first" */
    private static void paperIsAMillion() {
        SeatCounts x = house(3, 0x1, 1, 0x32, 500);
        due.is("a million", x.count(3, 1), 1);
        due.votes("a million", x, 0, 1000000, 500000000, 0);
        keeps("a million", x, 0, 1000000, 1000000, 1000000);
    }

    /**
     * "each gets the rest times its KEEP by 1000000, cut, and the rest is less by that; what is left in the
     * end is NOT TRANSFERABLE": QUOTA 1000001, 0 has 4 papers, then keeps 250001 of each; of the rest of
     * 749999 1 gets 333335 parts, which is 250000, cut, and 2 gets what is left.
     */
    private static void restIsCut() {
        SeatCounts x = house(5, 0x321, 4, 0x3, 1);
        x.count(3, 4);
        keeps("cut", x, 2, 250001, 333335, 1000000, 1000000, 1000000);
        due.votes("cut", x, 2, 1000004, 1000000, 2999996, 0, 0);
        due.is("nothing is left", x.stage(2, 2), 0);

        x = house(5, 0x21, 4, 0x3, 1);
        x.count(3, 4);
        keeps("left", x, 2, 250001, 333335, 1000000, 1000000, 1000000);
        due.votes("left", x, 2, 1000004, 1000000, 1000000, 0, 0);
        due.is("499999 of each paper are left", x.stage(2, 2), 1999996);
        due.is("nothing was left in the ROUND ahead", x.stage(1, 2), 0);
        due.is("nothing is LOST", x.stage(2, 3), 0);
    }

    /** "QUOTA is what all CANDIDATES have by seats and 1, cut, and 1." */
    private static void quotaIsCut() {
        long[][] papersSeatsQuota = {
            {1, 1, 500001}, {1, 2, 333334}, {2, 2, 666667}, {3, 2, 1000001}, {1, 12, 76924},
            {13, 12, 1000001}, {500, 6, 71428572},
        };
        for (long[] q : papersSeatsQuota) {
            SeatCounts x = house(3, 0x1, q[0]);
            x.count(3, (int) q[1]);
            due.is(q[0] + " papers, " + q[1] + " seats", x.stage(0, 5), q[2]);
        }
    }

    /** None by anything is 0, and 1: whoever has no votes is below QUOTA. */
    private static void quotaOfNoPapers() {
        SeatCounts x = house(3);
        due.is("no papers", x.count(3, 2), 2);
        due.stage("no papers", x, 0, 4, 2, 0, 0, 0, 1, 0);
        due.status("no papers", x, 0, 0, 0, 2);
        due.stage("no papers", x, 1, 3, NONE, 0, 0, 2, 1, 0);
        due.elected("no papers", x, 0, 1);
        x.candidates(12);
        due.is("no papers, 12", x.count(3, 1), 12);
        for (int i = 0; i < 11; i++) {
            due.stage("no papers, 12", x, i, 4, 11 - i, 0, 0, 0, 1, 0);
        }
        due.stage("no papers, 12", x, 11, 3, NONE, 0, 0, 1, 1, 0);
    }

    /** A PILE of withdrawn ones counts for nothing, and none of it is NOT TRANSFERABLE. */
    private static void quotaOfValidPilesAlone() {
        SeatCounts x = house(3, 0x1, 500, 0x21, 3);
        x.withdraw(0, true);
        due.is("VALID alone", x.count(3, 1), 1);
        due.stage("VALID alone", x, 0, 3, NONE, 0, 0, 1, 1500001, 0);
        due.votes("VALID alone", x, 0, 0, 3000000, 0);
        due.is("no KEEP", x.keep(0, 0), STATE);
        x.withdraw(1, true);
        due.is("none VALID", x.count(3, 1), 1);
        due.stage("none VALID", x, 0, 3, NONE, 0, 0, 1, 1, 0);
        due.elected("none VALID", x, 2);
    }

    /** 9 papers for 2 seats: QUOTA is 3000001, and 3 papers are 1 unit less. */
    private static void oneUnitShortOfQuota() {
        SeatCounts x = house(3, 0x1, 3, 0x2, 3, 0x3, 3);
        due.is("one short", x.count(3, 2), 2);
        due.stage("one short", x, 0, 4, 2, 0, 0, 0, 3000001, 0);
        due.votes("one short", x, 0, 3000000, 3000000, 3000000);
        due.status("one short", x, 0, 0, 0, 2);
        due.stage("one short", x, 1, 3, NONE, 3000000, 0, 2, 2000001, 0);
        due.votes("one short", x, 1, 3000000, 3000000, 0);
        due.elected("one short", x, 0, 1);
    }

    /** At STAGE 2 QUOTA is 3333335 by 6, cut, and 1: 555556, and 1 has just that. */
    private static SeatCounts exactly() {
        SeatCounts x = house(6, 0x31, 3, 0x2341, 2);
        x.count(3, 5);
        return x;
    }

    /** "HOPEFUL ones with QUOTA or more are ELECTED": EXCESS is 277779 and 0 and 555554 and 277778. */
    private static void quotaExactly() {
        SeatCounts x = exactly();
        due.stage("exactly", x, 1, 3, NONE, 0, 0, 3, 833334, 2499998);
        due.votes("exactly", x, 1, 833335, 0, 2499999, 1666666, 0, 0);
        due.stage("exactly", x, 2, 3, NONE, 1666665, 0, 4, 555556, 1111111);
        due.votes("exactly", x, 2, 833335, 555556, 1111110, 833334, 0, 0);
        due.status("exactly", x, 2, 1, 1, 1, 1, 0, 0);
        due.is("who was fourth", x.elected(3), 1);
    }

    /** "but 1000000 at most": 1000000 x 555556 by 555556, and 1, would be 1000001. */
    private static void keepIsAMillionAtMost() {
        SeatCounts x = exactly();
        keeps("at most", x, 2, 166667, 1000000, 333334, 500001, 1000000, 1000000);
        keeps("at most", x, 3, 111112, 1000000, 166668, 333335, 1000000, 1000000);
    }

    /** "if no more are HOPEFUL and ELECTED together than there are seats": as many are no more. */
    private static void asManyAsSeats() {
        SeatCounts x = house(4, 0x2, 1, 0x3, 1, 0x4, 9);
        x.withdraw(3, true);
        due.is("as many", x.count(3, 3), 1);
        due.stage("as many", x, 0, 3, NONE, 0, 0, 3, 500001, 0);
        due.status("as many", x, 0, 1, 1, 1, 3);
        due.elected("as many", x, 1, 2, 0);
        x.candidates(12);
        due.is("12 of 12", x.count(3, 12), 1);
        due.elected("12 of 12", x, 0, 1, 2, 3, 4, 5, 6, 7, 8, 9, 10, 11);
    }

    private static void oneMoreThanSeats() {
        SeatCounts x = house(12);
        due.is("12 for 11", x.count(3, 11), 2);
        due.is("who is OUT", x.stage(0, 1), 11);
        due.elected("12 for 11", x, 0, 1, 2, 3, 4, 5, 6, 7, 8, 9, 10);
    }

    /** "If none is HOPEFUL then .. it ends", though seats are left. */
    private static void fewerThanSeats() {
        for (int seats = 4; seats <= 12; seats++) {
            SeatCounts x = house(3, 0x21, 50, 0x3, 1);
            due.is(seats + " seats for 3", x.count(3, seats), 1);
            due.status(seats + " seats for 3", x, 0, 1, 1, 1);
            due.is("where it ended ahead of EXCESS", x.stage(0, 6), 0);
            due.elected(seats + " seats for 3", x, 0, 2, 1);
        }
        SeatCounts x = house(1, 0x1, 500);
        due.is("one of one", x.count(3, 1), 1);
        due.elected("one of one", x, 0);
    }

    /** "or as many are ELECTED as there are seats, it ends": the others stay HOPEFUL. */
    private static void endsWithHopefulOnes() {
        SeatCounts x = house(4, 0x21, 50, 0x3, 1);
        due.is("ends", x.count(3, 1), 1);
        due.stage("ends", x, 0, 3, NONE, 0, 0, 1, 25500001, 0);
        due.status("ends", x, 0, 1, 0, 0, 0);
        due.elected("ends", x, 0);
    }

    /**
     * "HOPEFUL ones with QUOTA or more are ELECTED": all of them, even if that is more than the seats. QUOTA
     * stays 30000001. 1 has 102 papers, then keeps 294118 of each; 0 gets the rests of 705882, then keeps
     * 416667 parts, which is 294117, cut: 67 units short of QUOTA. What is left, 411765 of each of 51 papers,
     * and 9 papers bring 2 and 3 30000015 each in the same ROUND, so that 4 are ELECTED for 3 seats.
     */
    private static void moreThanSeats() {
        for (int lot = 2; lot < 4; lot++) {
            SeatCounts x = house(5, 0x3, 9, 0x4, 9, 0x312, 51, 0x412, 51);
            x.lot(2, lot);
            due.is("more than seats", x.count(3, 3), 3);
            due.stage("more than seats", x, 0, 3, NONE, 0, 0, 1, 30000001, 71999999);
            due.votes("more than seats", x, 1, 71999964, 30000036, 9000000, 9000000, 0);
            due.stage("more than seats", x, 1, 3, NONE, 0, 0, 2, 30000001, 41999998);
            keeps("more than seats", x, 2, 416667, 294118, 1000000, 1000000, 1000000);
            due.votes("more than seats", x, 2, 29999934, 30000036, 30000015, 30000015, 0);
            due.stage("more than seats", x, 2, 3, NONE, 0, 0, 4, 30000001, 0);
            due.status("more than seats", x, 2, 1, 1, 1, 1, 0);
            due.elected("more than seats", x, 1, 0, lot == 2 ? 2 : 3, lot == 2 ? 3 : 2);
        }
    }

    /**
     * "(but TIES: by LOTS alone)": 1 and 2 have 5 each at STAGES 1 and 2; at STAGE 0 2 had more, but 1 has
     * the lower LOT, so 2 goes OUT. With changed LOTS it is 1.
     */
    private static void tiesByLotsAlone() {
        for (int lot = 1; lot < 3; lot++) {
            SeatCounts x = house(5, 0x1, 8, 0x2, 4, 0x3, 5, 0x24, 1, 0x5, 2);
            x.lot(1, lot);
            due.is("LOTS alone", x.count(3, 1), 4);
            due.is("first OUT", x.stage(0, 1), 3);
            due.is("second OUT", x.stage(1, 1), 4);
            due.votes("LOTS alone", x, 2, 8000000, 5000000, 5000000, 0, 0);
            due.is("third OUT", x.stage(2, 1), 3 - lot);
            due.elected("LOTS alone", x, 0);
        }
    }

    /** "goes OUT, its KEEP is 0", "(What a STAGE tells of KEEPS is as they were in its ROUND.)" */
    private static void keepOfOneThatIsOut() {
        SeatCounts x = house(4, 0x1, 4, 0x2, 3, 0x23, 2, 0x34, 1);
        due.is("out", x.count(3, 1), 3);
        due.stage("out", x, 0, 4, 3, 0, 0, 0, 5000001, 0);
        keeps("out", x, 0, 1000000, 1000000, 1000000, 1000000);
        due.votes("out", x, 0, 4000000, 3000000, 2000000, 1000000);
        due.status("out", x, 0, 0, 0, 0, 2);
        keeps("out", x, 1, 1000000, 1000000, 1000000, 0);
        due.stage("out", x, 1, 4, 2, 0, 0, 0, 5000001, 0);
        due.votes("out", x, 1, 4000000, 3000000, 3000000, 0);
        keeps("out", x, 2, 1000000, 1000000, 0, 0);
        due.votes("out", x, 2, 4000000, 5000000, 0, 0);
        due.stage("out", x, 2, 3, NONE, 1000000, 0, 1, 4500001, 0);
        due.elected("out", x, 1);
    }

    private static final int[] SINKING = {1000000, 200001, 40001, 8001, 1601, 321, 65, 14, 3, 1};

    /**
     * "EXCESS is below 1000". All papers are 1's, so what it does not keep is NOT TRANSFERABLE and its KEEP
     * becomes a fifth of itself, and 1. It ends up with 1 unit of each of 1250 papers, QUOTA 251: EXCESS 999.
     */
    private static void excessOf999() {
        SeatCounts x = house(5, 0x2, 500, 0x2, 500, 0x2, 250);
        due.is("999", x.count(3, 4), 11);
        for (int i = 0; i < SINKING.length; i++) {
            due.is("999 keep(" + i + ", 1)", x.keep(i, 1), SINKING[i]);
            due.is("999 votes(" + i + ", 1)", x.votes(i, 1), 1250L * SINKING[i]);
        }
        due.stage("999", x, 8, 3, NONE, 1249996250, 0, 1, 751, 2999);
        due.stage("999", x, 9, 4, 4, 1249998750, 0, 1, 251, 999);
        due.stage("999", x, 10, 3, NONE, 1249998750, 0, 4, 251, 0);
        due.elected("999", x, 1, 0, 2, 3);
    }

    /** As above, with 1251 papers: EXCESS of 1000 is not below 1000; one goes OUT a ROUND later, since it is like. */
    private static void excessOf1000() {
        SeatCounts x = house(5, 0x2, 500, 0x2, 500, 0x2, 251);
        due.is("1000", x.count(3, 4), 12);
        for (int i = 0; i < SINKING.length; i++) {
            due.is("1000 keep(" + i + ", 1)", x.keep(i, 1), SINKING[i]);
        }
        due.stage("1000", x, 8, 3, NONE, 1250996247, 0, 1, 751, 3002);
        due.stage("1000", x, 9, 3, NONE, 1250998749, 0, 1, 251, 1000);
        due.stage("1000", x, 10, 4, 4, 1250998749, 0, 1, 251, 1000);
        due.is("1000 keep(10, 1)", x.keep(10, 1), 1);
        due.elected("1000", x, 1, 0, 2, 3);
    }

    /** A PILE for each of the first so many: it first, the ones behind it next, then those from 0 on. */
    private static SeatCounts ring(int candidates, int ofThem, int papersOf0) {
        SeatCounts x = house(candidates);
        for (int c = 0; c < ofThem; c++) {
            long preferences = 0;
            for (int k = ofThem - 1; k >= 0; k--) {
                preferences = preferences << 4 | (1 + (c + k) % ofThem);
            }
            due.is("pile " + c, x.pile(preferences, c == 0 ? papersOf0 : 1), c);
        }
        return x;
    }

    /**
     * "there is a ROUND right ahead that put nobody OUT and EXCESS is not below what it was in that". 8 have
     * a paper each, for 9 seats: QUOTA 800001, EXCESS 8 x 199999. Then they keep 800002, and of each paper
     * 3 units are left behind all 8: each has 999997, QUOTA is 799998, EXCESS 8 x 199999 again.
     */
    private static void likeExcessAtStage1() {
        SeatCounts x = ring(10, 8, 1);
        due.is("like", x.count(3, 9), 3);
        due.stage("like", x, 0, 3, NONE, 0, 0, 8, 800001, 1599992);
        due.stage("like", x, 1, 4, 9, 24, 0, 8, 799998, 1599992);
        for (int c = 0; c < 8; c++) {
            due.is("like keep(1, " + c + ")", x.keep(1, c), 800002);
            due.is("like votes(1, " + c + ")", x.votes(1, c), 999997);
            due.is("like keep(2, " + c + "), nobody's but that of 9 changed", x.keep(2, c), 800002);
        }
        due.is("like keep(2, 9)", x.keep(2, 9), 0);
        due.stage("like", x, 2, 3, NONE, 24, 0, 9, 799998, 0);
        due.elected("like", x, 0, 1, 2, 3, 4, 5, 6, 7, 8);
    }

    /** As above with one more: STAGE 1 put somebody OUT, so like EXCESS at STAGE 2 puts nobody OUT. */
    private static void likeExcessBehindAnOut() {
        SeatCounts x = ring(11, 8, 1);
        x.count(3, 9);
        due.stage("behind an OUT", x, 1, 4, 10, 24, 0, 8, 799998, 1599992);
        due.stage("behind an OUT", x, 2, 3, NONE, 24, 0, 8, 799998, 1599992);
        for (int c = 0; c < 8; c++) {
            due.is("behind an OUT keep(2, " + c + ")", x.keep(2, c), 800002);
            due.is("behind an OUT keep(3, " + c + ")", x.keep(3, c), 640002);
        }
    }

    /**
     * 10 have a paper each, but 0 has 2, for 11 seats: QUOTA 916667, EXCESS 1083333 and 9 x 83333. Then of
     * each of the 11 papers 1 unit is left: QUOTA 916666, EXCESS 11000000 - 11 - 9166660, which is 1 less.
     */
    private static void excessBelowByOne() {
        SeatCounts x = ring(12, 10, 2);
        x.count(3, 11);
        due.stage("1 below", x, 0, 3, NONE, 0, 0, 10, 916667, 1833330);
        keeps("1 below", x, 1, 458334, 916668, 916668, 916668, 916668, 916668, 916668, 916668, 916668, 916668);
        due.stage("1 below", x, 1, 3, NONE, 11, 0, 10, 916666, 1833329);
    }

    /**
     * "if none was ELECTED in this ROUND": QUOTA 45400001, 0 keeps 217225 of each of its 209 papers. 58 of
     * them bring 1 45400950 at STAGE 1. EXCESS is 24 and 949, but 1 was ELECTED just now. At STAGE 2, with
     * 210 and 207, nobody was, and 5 with 18 papers goes OUT.
     */
    private static void electedWithSmallExcess() {
        SeatCounts x = house(6, 0x21, 58, 0x31, 50, 0x41, 50, 0x51, 51, 0x6, 18);
        x.count(3, 4);
        due.stage("small", x, 0, 3, NONE, 0, 0, 1, 45400001, 163599999);
        keeps("small", x, 1, 217225, 1000000, 1000000, 1000000, 1000000, 1000000);
        due.votes("small", x, 1, 45400025, 45400950, 39138750, 39138750, 39921525, 18000000);
        due.stage("small", x, 1, 3, NONE, 0, 0, 2, 45400001, 973);
        keeps("small", x, 2, 217225, 999980, 1000000, 1000000, 1000000, 1000000);
        due.votes("small", x, 2, 45400025, 45400022, 39138750, 39138750, 39921525, 18000000);
        due.stage("small", x, 2, 4, 5, 928, 0, 2, 45399815, 417);
    }

    /**
     * QUOTA 1000001. At STAGE 1 EXCESS is 3 and 1999995 (0 was ELECTED), at STAGE 2 it is the same: 0 has
     * 1 unit less than QUOTA, 2 has 1999995 more. But 2 was ELECTED just now, so nobody goes OUT.
     */
    private static void electedWithLikeExcess() {
        SeatCounts x = house(5, 0x3, 1, 0x312, 4);
        x.count(3, 4);
        due.stage("like, elected", x, 0, 3, NONE, 0, 0, 1, 1000001, 2999999);
        due.votes("like, elected", x, 1, 2999996, 1000004, 1000000, 0, 0);
        due.stage("like, elected", x, 1, 3, NONE, 0, 0, 2, 1000001, 1999998);
        due.votes("like, elected", x, 2, 1000000, 1000004, 2999996, 0, 0);
        due.stage("like, elected", x, 2, 3, NONE, 0, 0, 3, 1000001, 1999998);
    }

    /** The first so many have a PILE of 500 papers each, with nobody behind, the others have nothing. */
    private static SeatCounts alone(int candidates, int ofThem) {
        SeatCounts x = house(candidates);
        for (int c = 0; c < ofThem; c++) {
            x.pile(c + 1, 500);
        }
        return x;
    }

    /**
     * Of a house with so many alone, who are ELECTED at STAGE 0: all keep the same, reckoned here, and EXCESS
     * falls from ROUND to ROUND, but never below 1000, so that nobody goes OUT ahead of a STAGE.
     */
    private static void allSinkTill(String at, SeatCounts x, int ofThem, int seats, int stage) {
        long keep = 1000000;
        for (int i = 0; i < stage; i++) {
            long votes = 500 * keep;
            long quota = ofThem * votes / (seats + 1) + 1;
            due.is(at + " keep(" + i + ", 0)", x.keep(i, 0), keep);
            due.is(at + " keep(" + i + ", last)", x.keep(i, ofThem - 1), keep);
            due.stage(at, x, i, 3, NONE, ofThem * (500000000 - votes), 0, ofThem, quota, ofThem * (votes - quota));
            keep = keep * quota / votes + 1;
        }
        due.is(at + " keep(" + stage + ", 0)", x.keep(stage, 0), keep);
    }

    /** "If it is STAGE 60": EXCESS fell to 17490, which is no reason to put anybody OUT, but for the STAGE. */
    private static void stage60() {
        SeatCounts x = alone(12, 10);
        due.is("60", x.count(3, 11), 62);
        allSinkTill("60", x, 10, 11, 60);
        due.is("60, KEEP ahead", x.keep(59, 0), 25);
        due.is("60, KEEP", x.keep(60, 0), 21);
        due.stage("60", x, 59, 3, NONE, 4999875000L, 0, 10, 10417, 20830);
        due.stage("60", x, 60, 4, 11, 4999895000L, 0, 10, 8751, 17490);
        due.is("60, KEEP stays", x.keep(61, 0), 21);
        due.stage("60", x, 61, 3, NONE, 4999895000L, 0, 11, 8751, 0);
        due.elected("60", x, 0, 1, 2, 3, 4, 5, 6, 7, 8, 9, 10);
    }

    /** "or one behind that": STAGE 61, too, though EXCESS is like behind an OUT. */
    private static void stage61() {
        SeatCounts x = alone(12, 9);
        due.is("61", x.count(3, 10), 63);
        allSinkTill("61", x, 9, 10, 60);
        due.stage("61", x, 60, 4, 11, 4499959500L, 0, 9, 3682, 7362);
        due.stage("61", x, 61, 4, 10, 4499959500L, 0, 9, 3682, 7362);
        due.stage("61", x, 62, 3, NONE, 4499959500L, 0, 10, 3682, 0);
        due.elected("61", x, 0, 1, 2, 3, 4, 5, 6, 7, 8, 9);
    }

    /** KEEP 5 stays 5, so EXCESS is like at STAGE 59. STAGE 60 would let it be, right behind an OUT, if it were not 60. */
    private static void stage60BehindAnOut() {
        SeatCounts x = alone(11, 8);
        due.is("59", x.count(3, 9), 62);
        allSinkTill("59", x, 8, 9, 59);
        due.stage("59", x, 58, 3, NONE, 3999980000L, 0, 8, 2001, 3992);
        due.stage("59", x, 59, 4, 10, 3999980000L, 0, 8, 2001, 3992);
        due.stage("59", x, 60, 4, 9, 3999980000L, 0, 8, 2001, 3992);
        due.stage("59", x, 61, 3, NONE, 3999980000L, 0, 9, 2001, 0);
        due.elected("59", x, 0, 1, 2, 3, 4, 5, 6, 7, 8);
    }

    /** "If it is STAGE 60 or one behind that": somebody goes OUT, though another was ELECTED in that ROUND. */
    private static void electedBehindStage60() {
        SeatCounts x = house(11, 0x91a45826L, 79, 0x19235b74, 414, 0x1627359, 303, 0x24978a6b, 368,
                0x7b8, 272, 0x37b95162aL, 418, 0x5279, 316, 0xa8b397, 463);
        due.is("behind 60", x.count(3, 4), 63);
        due.is("behind 60, ELECTED ahead", x.stage(60, 4), 2);
        due.is("behind 60, ELECTED", x.stage(61, 4), 3);
        due.is("behind 60, a ROUND that put somebody OUT", x.stage(61, 0), 4);
    }

    /**
     * "(1000000, if it has no votes)". All 2000 papers are 0's, then 1's. At STAGE 16 they keep 1 and 2 units
     * of each; 2 x 801 by 2000, cut, and 1 is 1, so at STAGE 17 1 gets 999999 x 1 by 1000000: nothing. It is
     * below QUOTA, which takes nothing off EXCESS. Then it keeps all again, and EXCESS grows.
     */
    private static void keepWithoutVotes() {
        SeatCounts x = house(5, 0x21, 500, 0x21, 500, 0x21, 500, 0x21, 500);
        due.is("no votes", x.count(3, 4), 20);
        keeps("no votes", x, 16, 1, 2, 1000000, 1000000, 1000000);
        due.votes("no votes", x, 16, 2000, 2000, 0, 0, 0);
        due.stage("no votes", x, 16, 3, NONE, 1999996000, 0, 2, 801, 2398);
        keeps("no votes", x, 17, 1, 1, 1000000, 1000000, 1000000);
        due.votes("no votes", x, 17, 2000, 0, 0, 0, 0);
        due.status("no votes", x, 17, 1, 1, 0, 0, 0);
        due.stage("no votes", x, 17, 3, NONE, 1999998000, 0, 2, 401, 1599);
        keeps("no votes", x, 18, 1, 1000000, 1000000, 1000000, 1000000);
        due.votes("no votes", x, 18, 2000, 1999998000, 0, 0, 0);
        due.stage("no votes", x, 18, 4, 4, 0, 0, 2, 400000001, 1599997999);
        keeps("no votes", x, 19, 1, 1000000, 1000000, 1000000, 0);
        due.stage("no votes", x, 19, 3, NONE, 0, 0, 4, 400000001, 0);
        due.elected("no votes", x, 0, 1, 2, 3);
    }

    /** One unit is not none: KEEP 1 x 123 by 1, and 1. How it came to be so is too long to reckon by hand. */
    private static void keepWithOneUnit() {
        SeatCounts x = house(12, 0x3124, 491, 0x3, 1);
        x.count(3, 11);
        due.is("one unit, QUOTA", x.stage(15, 5), 123);
        due.is("one unit, votes", x.votes(15, 2), 1);
        due.is("one unit, status", x.status(15, 2), 1);
        due.is("one unit, KEEP", x.keep(15, 2), 1);
        due.is("one unit, nobody OUT", x.stage(15, 0), 3);
        due.is("one unit, KEEP then", x.keep(16, 2), 124);
    }
}
