/** Promises 15 to 17: sheet, forge, check. A test for each sentence. */
public final class SheetTest {
    private static final int UNKNOWN = SeatCounts.UNKNOWN, STATE = SeatCounts.STATE;
    private static final int MIN = Integer.MIN_VALUE, MAX = Integer.MAX_VALUE;
    private static final Due due = new Due("SheetTest");

    public static void main(String[] args) {
        noCount();
        votesAsMade();
        numberOfWithdrawn();
        sheetUnknown();
        forgeAnswersWhatItWas();
        forgeUnknown();
        forgeTouchesNothingElse();
        checkAsMade();
        checkEachNumber();
        checkEachOf12();
        checkFirstStage();
        checkLastOfManyStages();
        refusedCountLeavesIt();
        madeAnew();
        due.end();
    }

    /** 2 STAGES by each RULE: 2 goes OUT, and 1 is ELECTED with 5 of 9 papers. */
    private static SeatCounts counted(int rule) {
        SeatCounts x = new SeatCounts();
        x.pile(0x1, 4);
        x.pile(0x2, 3);
        x.pile(0x23, 2);
        due.is("count(" + rule + ", 1)", x.count(rule, 1), 2);
        return x;
    }

    /** Promise 17, "STATE: there was no COUNT"; and no STAGE, so UNKNOWN. */
    private static void noCount() {
        SeatCounts x = new SeatCounts();
        due.is("sheet(0, 0)", x.sheet(0, 0), UNKNOWN);
        due.is("forge(0, 0, 1)", x.forge(0, 0, 1), UNKNOWN);
        due.is("check()", x.check(), STATE);
        x.pile(0x1, 1);
        x.candidates(5);
        due.is("check() still", x.check(), STATE);
        x.count(0, 1);
        due.is("check() behind one", x.check(), 1);
    }

    /** "THE SHEET has a number for each STAGE of the latest COUNT and each CANDIDATE: the votes, as it was made." */
    private static void votesAsMade() {
        for (int rule = 0; rule < 4; rule++) {
            SeatCounts x = counted(rule);
            long paper = rule == 3 ? 1000000 : 100000;
            long[][] want = {{4 * paper, 3 * paper, 2 * paper}, {4 * paper, 5 * paper, 0}};
            for (int i = 0; i < 2; i++) {
                for (int c = 0; c < 3; c++) {
                    due.is("sheet(" + i + ", " + c + ")", x.sheet(i, c), want[i][c]);
                }
            }
        }
    }

    /** "each CANDIDATE": a withdrawn one has a number, too. */
    private static void numberOfWithdrawn() {
        for (int rule = 0; rule < 4; rule++) {
            SeatCounts x = new SeatCounts();
            x.withdraw(2, true);
            x.pile(0x3, 1);
            x.count(rule, 2);
            due.is("sheet(0, 2)", x.sheet(0, 2), 0);
            due.is("forge(0, 2, 3)", x.forge(0, 2, 3), 0);
            due.is("check()", x.check(), -20);
        }
    }

    /** Promise 15, "UNKNOWN." */
    private static void sheetUnknown() {
        SeatCounts x = counted(0);
        due.is("the first", x.sheet(0, 0), 400000);
        due.is("the last", x.sheet(1, 2), 0);
        due.is("behind the last STAGE", x.sheet(2, 0), UNKNOWN);
        due.is("ahead of the first STAGE", x.sheet(-1, 0), UNKNOWN);
        due.is("behind the last CANDIDATE", x.sheet(0, 3), UNKNOWN);
        due.is("ahead of the first CANDIDATE", x.sheet(1, -1), UNKNOWN);
        due.is("sheet(MAX, MAX)", x.sheet(MAX, MAX), UNKNOWN);
        due.is("sheet(MIN, MIN)", x.sheet(MIN, MIN), UNKNOWN);
    }

    /** Promise 16, "A number on THE SHEET becomes v: what it was." */
    private static void forgeAnswersWhatItWas() {
        SeatCounts x = counted(0);
        long[] numbers = {Long.MIN_VALUE, Long.MAX_VALUE, -1, 0, UNKNOWN, 500000};
        long ahead = 500000;
        for (long v : numbers) {
            due.is("forge(1, 1, " + v + ")", x.forge(1, 1, v), ahead);
            due.is("sheet(1, 1)", x.sheet(1, 1), v);
            ahead = v;
        }
    }

    /** Promise 16, "UNKNOWN." */
    private static void forgeUnknown() {
        SeatCounts x = counted(0);
        int[][] wrong = {{2, 0}, {-1, 0}, {0, 3}, {0, -1}, {1, 3}, {1, -1}, {0, 12}, {MAX, 0}, {0, MAX}, {MIN, MIN}};
        for (int[] w : wrong) {
            due.is("forge(" + w[0] + ", " + w[1] + ", 9)", x.forge(w[0], w[1], 9), UNKNOWN);
        }
        due.is("check() behind refusals", x.check(), 1);
        due.is("the last", x.forge(1, 2, 9), 0);
        due.is("check() then", x.check(), -21);
    }

    private static void forgeTouchesNothingElse() {
        for (int rule = 0; rule < 4; rule++) {
            SeatCounts x = counted(rule);
            long ahead = x.votes(1, 1);
            x.forge(1, 1, 7);
            due.is("votes stay", x.votes(1, 1), ahead);
            due.is("status stays", x.status(1, 1), 1);
            due.is("who was ELECTED stays", x.elected(0), 1);
            due.is("the number ahead stays", x.sheet(1, 0), x.votes(1, 0));
            due.is("the number behind stays", x.sheet(1, 2), x.votes(1, 2));
            due.is("that of the STAGE ahead stays", x.sheet(0, 1), x.votes(0, 1));
        }
    }

    /** Promise 17, "1: THE SHEET is as it was made", again, too. */
    private static void checkAsMade() {
        SeatCounts x = counted(0);
        due.is("as made", x.check(), 1);
        due.is("forged to what it is", x.forge(0, 0, 400000), 400000);
        due.is("as made still", x.check(), 1);
        x.forge(0, 0, 400001);
        due.is("1 more", x.check(), -20);
        x.forge(0, 0, 399999);
        due.is("1 less", x.check(), -20);
        x.forge(0, 0, 400000);
        due.is("as made again", x.check(), 1);
        x.forge(0, 0, 300000);
        x.forge(0, 1, 400000);
        due.is("two have changed places", x.check(), -20);
    }

    /** "else -20 less the first STAGE at which it is not": whichever number it is. */
    private static void checkEachNumber() {
        for (int rule = 0; rule < 4; rule++) {
            for (int i = 0; i < 2; i++) {
                for (int c = 0; c < 3; c++) {
                    SeatCounts x = counted(rule);
                    x.forge(i, c, -1);
                    due.is("check() of " + i + ", " + c, x.check(), -20 - i);
                }
            }
        }
    }

    /** 12 CANDIDATES, 12 STAGES: all places that such a SHEET has. */
    private static void checkEachOf12() {
        for (int rule = 0; rule < 4; rule++) {
            SeatCounts x = new SeatCounts();
            x.candidates(12);
            due.is("12 stages", x.count(rule, 1), 12);
            for (int i = 0; i < 12; i++) {
                for (int c = 0; c < 12; c += 11) {
                    due.is("forge(" + i + ", " + c + ")", x.forge(i, c, 1), 0);
                    due.is("check() of " + i + ", " + c, x.check(), -20 - i);
                    due.is("forge(" + i + ", " + c + ") back", x.forge(i, c, 0), 1);
                }
            }
            due.is("check() in the end", x.check(), 1);
        }
    }

    private static void checkFirstStage() {
        SeatCounts x = counted(0);
        x.forge(1, 0, 1);
        due.is("STAGE 1", x.check(), -21);
        x.forge(0, 2, 1);
        due.is("both, 0 is first", x.check(), -20);
        x.forge(0, 2, 200000);
        due.is("STAGE 1 still", x.check(), -21);
        x.forge(1, 0, 400000);
        due.is("none", x.check(), 1);
    }

    /** A COUNT by RULE 3 with 62 STAGES (see KeepCountTest). */
    private static void checkLastOfManyStages() {
        SeatCounts x = new SeatCounts();
        x.candidates(8);
        x.pile(0x12, 294);
        x.pile(0x12, 262);
        x.pile(0x13, 370);
        x.pile(0x12, 378);
        due.is("62 stages", x.count(3, 5), 62);
        due.is("check() of 62", x.check(), 1);
        due.is("the last number of 62", x.forge(61, 7, 1), 0);
        due.is("check() of the last", x.check(), -81);
        due.is("there is no more", x.forge(62, 0, 1), UNKNOWN);
    }

    private static void refusedCountLeavesIt() {
        SeatCounts x = counted(0);
        x.forge(0, 0, 1);
        x.count(4, 1);
        x.count(0, 13);
        due.is("OUTSIDE", x.check(), -20);
        for (int c = 0; c < 3; c++) {
            x.withdraw(c, true);
        }
        x.count(0, 1);
        due.is("STATE", x.check(), -20);
        due.is("sheet(0, 0)", x.sheet(0, 0), 1);
    }

    private static void madeAnew() {
        SeatCounts x = counted(0);
        x.forge(0, 0, 1);
        x.forge(1, 2, 1);
        x.change(0, 9);
        x.withdraw(1, true);
        due.is("THE SHEET is of then", x.sheet(1, 1), 500000);
        x.count(0, 1);
        due.is("check() of a new COUNT", x.check(), 1);
        due.is("sheet(0, 0) of a new COUNT", x.sheet(0, 0), 900000);
        x.count(3, 1);
        due.is("by RULE 3", x.sheet(0, 0), 9000000);
        due.is("check() by RULE 3", x.check(), 1);
    }
}
