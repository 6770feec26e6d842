import java.util.List;

/**
 * Promises 8 to 14, what does not hang on a RULE's numbers: count, stage, votes, status, elected, keep,
 * lies. A test for each sentence that has an edge.
 */
public final class CountEdgesTest {
    private static final int UNKNOWN = SeatCounts.UNKNOWN, OUTSIDE = SeatCounts.OUTSIDE;
    private static final int STATE = SeatCounts.STATE, NONE = SeatCounts.NONE;
    private static final int MIN = Integer.MIN_VALUE, MAX = Integer.MAX_VALUE;
    private static final Due due = new Due("CountEdgesTest");

    public static void main(String[] args) {
        rulesAndSeats();
        allWithdrawn();
        outsideAheadOfState();
        countAheadStays();
        noCountAheadStaysNone();
        pilesAsTheyAre();
        howManyStages();
        shorterBehindLonger();
        nothingLeftOver();
        stageUnknown();
        stageOutside();
        stageKinds();
        stageOfRule3();
        votesUnknown();
        statusTold();
        statusUnknown();
        electedInOrder();
        electedOfALaterCount();
        keepUnknown();
        keepNotByRule3();
        keepOfWithdrawn();
        liesUnknownStage();
        liesUnknownPile();
        liesOfPilesThen();
        liesOutside();
        liesByRule3();
        due.end();
    }

    /** 2 STAGES by each RULE: 2 goes OUT, behind STAGE 0 or in its ROUND, and 1 is ELECTED with 5 of 9 papers. */
    private static SeatCounts counted(int rule) {
        SeatCounts x = new SeatCounts();
        x.pile(0x1, 4);
        x.pile(0x2, 3);
        x.pile(0x23, 2);
        due.is("count(" + rule + ", 1)", x.count(rule, 1), 2);
        return x;
    }

    // ---- Promise 8

    /** "OUTSIDE: rule is not 0 to 3, seats are not 1 to 12" */
    private static void rulesAndSeats() {
        int[] numbers = {MIN, -2, -1, 0, 1, 2, 3, 4, 5, 11, 12, 13, 14, MAX};
        for (int rule : numbers) {
            for (int seats : numbers) {
                SeatCounts x = new SeatCounts();
                x.pile(0x1, 4);
                boolean taken = rule >= 0 && rule <= 3 && seats >= 1 && seats <= 12;
                String call = "count(" + rule + ", " + seats + ")";
                int got = x.count(rule, seats);
                due.holds(call + " is refused: " + !taken, got == OUTSIDE != taken);
                due.is(call + ", told(3)", x.told(3), taken ? got : 0);
                due.is(call + ", told(5)", x.told(5), taken ? rule : NONE);
                due.is(call + ", check()", x.check(), taken ? 1 : STATE);
            }
        }
    }

    /** "STATE: all CANDIDATES are withdrawn"; if one is not, it is ELECTED. */
    private static void allWithdrawn() {
        for (int n = 1; n <= 12; n++) {
            for (int rule = 0; rule < 4; rule++) {
                SeatCounts x = new SeatCounts();
                x.candidates(n);
                x.pile(0x1, 3);
                for (int c = 0; c < n; c++) {
                    x.withdraw(c, true);
                }
                due.is("all of " + n, x.count(rule, 1), STATE);
                x.withdraw(n - 1, false);
                due.is("all but one of " + n, x.count(rule, 1), 1);
                due.elected("all but one of " + n, x, n - 1);
                due.is("its votes", x.votes(0, n - 1), n > 1 ? 0 : rule == 3 ? 3000000 : 300000);
            }
        }
    }

    private static void outsideAheadOfState() {
        SeatCounts x = new SeatCounts();
        x.candidates(1);
        x.withdraw(0, true);
        due.is("count(-1, 1)", x.count(-1, 1), OUTSIDE);
        due.is("count(4, 1)", x.count(4, 1), OUTSIDE);
        due.is("count(0, 0)", x.count(0, 0), OUTSIDE);
        due.is("count(0, 13)", x.count(0, 13), OUTSIDE);
        due.is("count(0, 1)", x.count(0, 1), STATE);
        due.is("count(3, 12)", x.count(3, 12), STATE);
    }

    /** "(the COUNT ahead stays)" */
    private static void countAheadStays() {
        for (int rule = 0; rule < 4; rule++) {
            SeatCounts x = counted(rule);
            x.forge(1, 1, 8);
            for (int c = 0; c < 3; c++) {
                x.withdraw(c, true);
            }
            due.is("all are withdrawn", x.count(rule, 2), STATE);
            due.is("RULE", x.told(5), rule);
            due.is("STAGES", x.told(3), 2);
            due.votes("stays", x, 1, rule == 3 ? 4000000 : 400000, rule == 3 ? 5000000 : 500000, 0);
            due.status("stays", x, 1, 0, 1, 2);
            due.elected("stays", x, 1);
            due.is("THE SHEET", x.sheet(1, 1), 8);
            due.is("check()", x.check(), -21);
        }
    }

    private static void noCountAheadStaysNone() {
        SeatCounts x = new SeatCounts();
        for (int c = 0; c < 3; c++) {
            x.withdraw(c, true);
        }
        due.is("all are withdrawn", x.count(0, 1), STATE);
        due.is("told(3)", x.told(3), 0);
        due.is("told(5)", x.told(5), NONE);
        due.is("stage(0, 0)", x.stage(0, 0), UNKNOWN);
        due.is("check()", x.check(), STATE);
    }

    /** "A COUNT of all PILES as they are", and not as they become. */
    private static void pilesAsTheyAre() {
        for (int rule = 0; rule < 4; rule++) {
            long paper = rule == 3 ? 1000000 : 100000;
            SeatCounts x = counted(rule);
            x.change(0, 6);
            x.pile(0x3, 500);
            x.withdraw(1, true);
            due.votes("of then", x, 0, 4 * paper, 3 * paper, 2 * paper);
            due.status("of then", x, 0, 0, 0, rule == 3 ? 2 : 0);
            x.count(rule, 1);
            due.votes("of now", x, 0, 6 * paper, 0, 502 * paper);
            due.status("of now", x, 0, 0, 3, 1);
        }
    }

    /** "how many STAGES." */
    private static void howManyStages() {
        for (int rule = 0; rule < 4; rule++) {
            SeatCounts x = counted(rule);
            due.is("told(3)", x.told(3), 2);
            due.is("the last one's ELECTED", x.stage(1, 4), 1);
            due.is("one further", x.stage(2, 4), UNKNOWN);
        }
    }

    /** A COUNT of fewer STAGES, CANDIDATES and PILES: nothing of the one ahead is left over. */
    private static void shorterBehindLonger() {
        for (int rule = 0; rule < 3; rule++) {
            SeatCounts x = counted(rule);
            x.candidates(2);
            x.pile(0x1, 1);
            due.is("shorter", x.count(rule, 1), 1);
            due.is("stage(1, 0)", x.stage(1, 0), UNKNOWN);
            due.is("votes(1, 0)", x.votes(1, 0), UNKNOWN);
            due.is("votes(0, 2)", x.votes(0, 2), UNKNOWN);
            due.is("status(0, 2)", x.status(0, 2), UNKNOWN);
            due.is("sheet(0, 2)", x.sheet(0, 2), UNKNOWN);
            due.is("lies(0, 1, 0)", x.lies(0, 1, 0), UNKNOWN);
            due.is("lies(1, 0, 0)", x.lies(1, 0, 0), UNKNOWN);
            due.elected("shorter", x, 0);
        }
    }

    /** 12 CANDIDATES who need many STAGES, or 3 or 8 of whom some are ELECTED soon. */
    private static Run house(Run run, int size) {
        Run house = run.then(x -> x.candidates(size));
        if (size == 12) {
            for (int k = 0; k < 12; k++) {
                long preferences = 1 + k | (1 + (k + 5) % 12) << 4 | (1 + (k + 3) % 12) << 8;
                int papers = 10 + k * k;
                house = house.then(x -> x.pile(preferences, papers));
            }
            return house;
        }
        return house.then(x -> x.pile(0x321, 200)).then(x -> x.pile(0x12, 30)).then(x -> x.pile(0x3, 9));
    }

    /** Whatever COUNT was ahead, of more or of fewer, by which RULE: all is told as by a new object. */
    private static void nothingLeftOver() {
        int[] sizes = {3, 8, 12};
        for (int size : sizes) {
            for (int rule = 0; rule < 4; rule++) {
                int by = rule;
                int seats = size / 2 + 1;
                List<Long> alone = Look.at(house(new Run(), size).then(x -> x.count(by, seats)));
                for (int ahead = 0; ahead < sizes.length * 4; ahead++) {
                    int aheadBy = ahead % 4;
                    int aheadSize = sizes[ahead / 4];
                    Run first = house(new Run(), aheadSize).then(x -> x.count(aheadBy, aheadSize / 3));
                    Run both = house(first, size).then(x -> x.count(by, seats));
                    due.holds("RULE " + rule + " of " + size + " behind RULE " + aheadBy + " of " + aheadSize,
                            Look.at(both).equals(alone));
                }
            }
        }
    }

    // ---- Promise 9

    /** "UNKNOWN" */
    private static void stageUnknown() {
        SeatCounts x = new SeatCounts();
        due.is("no COUNT", x.stage(0, 0), UNKNOWN);
        due.is("no COUNT: UNKNOWN comes first", x.stage(0, 7), UNKNOWN);
        for (int rule = 0; rule < 4; rule++) {
            x = counted(rule);
            for (int what = 0; what < 7; what++) {
                due.is("stage(2, " + what + ")", x.stage(2, what), UNKNOWN);
                due.is("stage(-1, " + what + ")", x.stage(-1, what), UNKNOWN);
            }
            due.is("UNKNOWN comes first", x.stage(2, 7), UNKNOWN);
            due.is("UNKNOWN comes first", x.stage(-1, -1), UNKNOWN);
            due.is("stage(MAX, 0)", x.stage(MAX, 0), UNKNOWN);
            due.is("stage(MIN, 0)", x.stage(MIN, 0), UNKNOWN);
        }
    }

    /** "OUTSIDE." */
    private static void stageOutside() {
        for (int rule = 0; rule < 4; rule++) {
            SeatCounts x = counted(rule);
            for (int i = 0; i < 2; i++) {
                for (int what : new int[] {-1, 7, 8, MIN, MAX}) {
                    due.is("stage(" + i + ", " + what + ")", x.stage(i, what), OUTSIDE);
                }
                due.holds("6 is the last", x.stage(i, 6) == 0);
            }
        }
    }

    /** "0 what it is (0 FIRST, 1 SURPLUS, 2 OUT ..), 1 the CANDIDATE of 1, 2, 4 (NONE)", "EXCESS (of RULES 0 to 2 ..: 0)" */
    private static void stageKinds() {
        for (int rule = 0; rule < 3; rule++) {
            SeatCounts x = new SeatCounts();
            x.candidates(4);
            x.pile(0x21, 50);
            x.pile(0x3, 1);
            due.is("kinds", x.count(rule, 2), 2);
            due.is("FIRST", x.stage(0, 0), 0);
            due.is("nobody's", x.stage(0, 1), NONE);
            due.is("SURPLUS", x.stage(1, 0), 1);
            due.is("0's", x.stage(1, 1), 0);
            due.is("no EXCESS", x.stage(1, 6), 0);
            x = counted(rule);
            due.is("OUT", x.stage(1, 0), 2);
            due.is("2's", x.stage(1, 1), 2);
            due.is("no EXCESS", x.stage(1, 6), 0);
        }
    }

    /** "3 a ROUND, 4 a ROUND that put somebody OUT", "3 LOST by then (RULE 3: 0)", EXCESS "where it ended ahead of it: 0" */
    private static void stageOfRule3() {
        SeatCounts x = counted(3);
        due.is("put somebody OUT", x.stage(0, 0), 4);
        due.is("2", x.stage(0, 1), 2);
        due.is("a ROUND", x.stage(1, 0), 3);
        due.is("nobody's", x.stage(1, 1), NONE);
        due.is("nothing is LOST", x.stage(1, 3), 0);
        due.is("it ended ahead of EXCESS", x.stage(1, 6), 0);
        due.is("though 1 has more than QUOTA", x.votes(1, 1) - x.stage(1, 5), 499999);
    }

    // ---- Promises 10 and 11

    /** "UNKNOWN." */
    private static void votesUnknown() {
        due.is("no COUNT", new SeatCounts().votes(0, 0), UNKNOWN);
        for (int rule = 0; rule < 4; rule++) {
            SeatCounts x = counted(rule);
            long paper = rule == 3 ? 1000000 : 100000;
            due.is("the first", x.votes(0, 0), 4 * paper);
            due.is("the last", x.votes(1, 2), 0);
            due.is("behind the last STAGE", x.votes(2, 0), UNKNOWN);
            due.is("ahead of the first STAGE", x.votes(-1, 0), UNKNOWN);
            due.is("behind the last CANDIDATE", x.votes(0, 3), UNKNOWN);
            due.is("ahead of the first CANDIDATE", x.votes(1, -1), UNKNOWN);
            due.is("votes(MAX, MAX)", x.votes(MAX, MAX), UNKNOWN);
            due.is("votes(MIN, MIN)", x.votes(MIN, MIN), UNKNOWN);
        }
    }

    /** "0 HOPEFUL, 1 ELECTED, 2 OUT, 3 withdrawn": behind the STAGE, and as it was in the COUNT. */
    private static void statusTold() {
        for (int rule = 0; rule < 4; rule++) {
            SeatCounts x = new SeatCounts();
            x.candidates(4);
            x.pile(0x1, 4);
            x.pile(0x2, 3);
            x.pile(0x23, 2);
            x.withdraw(3, true);
            x.count(rule, 1);
            x.withdraw(3, false);
            x.withdraw(0, true);
            due.status("ahead", x, 0, 0, 0, rule == 3 ? 2 : 0, 3);
            due.status("in the end", x, 1, 0, 1, 2, 3);
        }
    }

    /** "UNKNOWN." */
    private static void statusUnknown() {
        due.is("no COUNT", new SeatCounts().status(0, 0), UNKNOWN);
        for (int rule = 0; rule < 4; rule++) {
            SeatCounts x = counted(rule);
            due.is("behind the last STAGE", x.status(2, 0), UNKNOWN);
            due.is("ahead of the first STAGE", x.status(-1, 0), UNKNOWN);
            due.is("behind the last CANDIDATE", x.status(0, 3), UNKNOWN);
            due.is("ahead of the first CANDIDATE", x.status(1, -1), UNKNOWN);
            due.is("status(MAX, 0)", x.status(MAX, 0), UNKNOWN);
        }
    }

    // ---- Promise 12

    /** "The k-th that was ELECTED (from 0 on); NONE." */
    private static void electedInOrder() {
        due.is("no COUNT", new SeatCounts().elected(0), NONE);
        for (int rule = 0; rule < 4; rule++) {
            SeatCounts x = counted(rule);
            due.is("elected(0)", x.elected(0), 1);
            due.is("elected(1)", x.elected(1), NONE);
            due.is("elected(-1)", x.elected(-1), NONE);
            due.is("elected(12)", x.elected(12), NONE);
            due.is("elected(MAX)", x.elected(MAX), NONE);
            due.is("elected(MIN)", x.elected(MIN), NONE);
            x.candidates(12);
            x.pile(0xC, 9);
            x.count(rule, 12);
            due.elected("12 of 12", x, 11, 0, 1, 2, 3, 4, 5, 6, 7, 8, 9, 10);
            due.is("elected(12) of 12", x.elected(12), NONE);
        }
    }

    /** Those of the COUNT ahead are forgotten. */
    private static void electedOfALaterCount() {
        for (int rule = 0; rule < 4; rule++) {
            SeatCounts x = counted(rule);
            x.count(rule, 3);
            due.elected("3 seats", x, 0, 1, 2);
            x.count(rule, 1);
            due.elected("1 seat", x, 1);
        }
    }

    // ---- Promise 13

    /** "UNKNOWN", ahead of STATE. */
    private static void keepUnknown() {
        due.is("no COUNT", new SeatCounts().keep(0, 0), UNKNOWN);
        for (int rule = 0; rule < 4; rule++) {
            SeatCounts x = counted(rule);
            due.is("behind the last STAGE", x.keep(2, 0), UNKNOWN);
            due.is("ahead of the first STAGE", x.keep(-1, 0), UNKNOWN);
            due.is("behind the last CANDIDATE", x.keep(0, 3), UNKNOWN);
            due.is("ahead of the first CANDIDATE", x.keep(0, -1), UNKNOWN);
            due.is("the last of all", x.keep(1, 2), rule == 3 ? 0 : STATE);
        }
    }

    /** "STATE: the COUNT was not by RULE 3" */
    private static void keepNotByRule3() {
        for (int rule = 0; rule < 3; rule++) {
            SeatCounts x = counted(3);
            due.is("by RULE 3", x.keep(0, 0), 1000000);
            x.count(rule, 1);
            due.is("by RULE " + rule, x.keep(0, 0), STATE);
            x.count(3, 1);
            due.is("by RULE 3 again", x.keep(0, 0), 1000000);
        }
    }

    /** "the CANDIDATE is withdrawn (as it was then)" */
    private static void keepOfWithdrawn() {
        SeatCounts x = new SeatCounts();
        x.pile(0x21, 3);
        x.withdraw(0, true);
        x.count(3, 1);
        x.withdraw(0, false);
        x.withdraw(1, true);
        due.is("withdrawn then", x.keep(0, 0), STATE);
        due.is("withdrawn now", x.keep(0, 1), 1000000);
        x.candidates(1);
        due.is("withdrawn then, behind candidates", x.keep(0, 0), STATE);
        due.is("not there now", x.keep(0, 2), 1000000);
    }

    // ---- Promise 14

    /** "UNKNOWN: the STAGE" */
    private static void liesUnknownStage() {
        due.is("no COUNT", new SeatCounts().lies(0, 0, 0), UNKNOWN);
        for (int rule = 0; rule < 4; rule++) {
            SeatCounts x = counted(rule);
            for (int what = -1; what < 3; what++) {
                due.is("behind the last", x.lies(2, 0, what), UNKNOWN);
                due.is("ahead of the first", x.lies(-1, 0, what), UNKNOWN);
            }
            due.is("lies(MAX, 0, 0)", x.lies(MAX, 0, 0), UNKNOWN);
            due.is("lies(MIN, 0, 0)", x.lies(MIN, 0, 0), UNKNOWN);
        }
    }

    /** "the PILE (of RULES 0 to 2: one that was not there then, too ..)" */
    private static void liesUnknownPile() {
        for (int rule = 0; rule < 3; rule++) {
            SeatCounts x = counted(rule);
            x.pile(0x1, 1);
            due.lies("the last then", x, 0, 2, 2, 100000);
            due.lies("the last then", x, 1, 2, 1, 100000);
            for (int what = -1; what < 3; what++) {
                due.is("not there then", x.lies(0, 3, what), UNKNOWN);
                due.is("ahead of the first", x.lies(0, -1, what), UNKNOWN);
            }
            due.is("not there now", x.lies(0, 4, 0), UNKNOWN);
            due.is("lies(0, MAX, 0)", x.lies(0, MAX, 0), UNKNOWN);
            due.is("lies(0, MIN, 0)", x.lies(0, MIN, 0), UNKNOWN);
            x.count(rule, 1);
            due.is("there by now", x.lies(0, 3, 0), 0);
        }
        SeatCounts x = new SeatCounts();
        x.count(0, 1);
        due.is("no PILES then", x.lies(0, 0, 0), UNKNOWN);
    }

    /** "Of a PILE (as numbered then)" */
    private static void liesOfPilesThen() {
        for (int rule = 0; rule < 3; rule++) {
            SeatCounts x = counted(rule);
            x.candidates(3);
            due.lies("none now", x, 0, 0, 0, 100000);
            due.lies("none now", x, 1, 2, 1, 100000);
            x.pile(0x3, 1);
            due.lies("another now", x, 0, 0, 0, 100000);
            due.lies("fewer now", x, 0, 2, 2, 100000);
        }
    }

    /** "OUTSIDE" */
    private static void liesOutside() {
        for (int rule = 0; rule < 3; rule++) {
            SeatCounts x = counted(rule);
            for (int what : new int[] {-1, 2, 3, MIN, MAX}) {
                due.is("lies(0, 0, " + what + ")", x.lies(0, 0, what), OUTSIDE);
                due.is("lies(1, 2, " + what + ")", x.lies(1, 2, what), OUTSIDE);
            }
        }
    }

    /** "of RULE 3 it is not looked at", "STATE: by RULE 3." */
    private static void liesByRule3() {
        SeatCounts x = counted(3);
        for (int pile : new int[] {-1, 0, 2, 3, 80, MIN, MAX}) {
            due.is("lies(0, " + pile + ", 0)", x.lies(0, pile, 0), STATE);
            due.is("lies(1, " + pile + ", 1)", x.lies(1, pile, 1), STATE);
            due.is("OUTSIDE comes first", x.lies(0, pile, -1), OUTSIDE);
            due.is("OUTSIDE comes first", x.lies(1, pile, 2), OUTSIDE);
            due.is("UNKNOWN comes first", x.lies(2, pile, 2), UNKNOWN);
        }
        x.count(0, 1);
        x.count(3, 1);
        due.is("behind a COUNT by RULE 0", x.lies(0, 0, 0), STATE);
    }
}
