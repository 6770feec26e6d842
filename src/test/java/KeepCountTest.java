/**
 * Promises 8 to 14 by RULE 3. Where a test says so, its numbers are reckoned by hand; those of the
 * long counts were found by search and are agreed by PlainModel.
 */
public final class KeepCountTest {
    private static final int NONE = SeatCounts.NONE;
    private static final Due due = new Due("KeepCountTest");

    public static void main(String[] args) {
        oneKeep();
        quotaSinks();
        outWithSmallExcess();
        belowQuotaIsNoExcess();
        noProgress();
        noVotesAndStage60();
        severalForcedOut();
        due.end();
    }

    private static void keeps(String where, SeatCounts x, int stage, int... want) {
        for (int c = 0; c < want.length; c++) {
            due.is(where + " keep(" + stage + ", " + c + ")", x.keep(stage, c), want[c]);
        }
    }

    /** By hand: QUOTA 10000000 / 3 and 1; KEEP 1000000 x 3333334 / 7000000 and 1. */
    private static void oneKeep() {
        SeatCounts x = new SeatCounts();
        x.candidates(4);
        x.pile(0x21, 7);
        x.pile(0x3, 2);
        x.pile(0x4, 1);
        due.is("one keep", x.count(3, 2), 2);
        due.stage("one keep", x, 0, 3, NONE, 0, 0, 1, 3333334, 3666666);
        due.votes("one keep", x, 0, 7000000, 0, 2000000, 1000000);
        due.status("one keep", x, 0, 1, 0, 0, 0);
        keeps("one keep", x, 0, 1000000, 1000000, 1000000, 1000000);
        due.stage("one keep", x, 1, 3, NONE, 0, 0, 2, 3333334, 0);
        due.votes("one keep", x, 1, 3333337, 3666663, 2000000, 1000000);
        due.status("one keep", x, 1, 1, 1, 0, 0);
        keeps("one keep", x, 1, 476191, 1000000, 1000000, 1000000);
        due.elected("one keep", x, 0, 1);
    }

    /** By hand: 0's papers have no next one, so what it does not keep sinks the QUOTA. */
    private static void quotaSinks() {
        SeatCounts x = new SeatCounts();
        x.candidates(4);
        x.pile(0x1, 7);
        x.pile(0x3, 2);
        x.pile(0x4, 1);
        due.is("quota sinks", x.count(3, 2), 3);
        due.stage("quota sinks", x, 0, 3, NONE, 0, 0, 1, 3333334, 3666666);
        due.stage("quota sinks", x, 1, 3, NONE, 3666663, 0, 1, 2111113, 1222224);
        due.votes("quota sinks", x, 1, 3333337, 0, 2000000, 1000000);
        keeps("quota sinks", x, 2, 301588, 1000000, 1000000, 1000000);
        due.stage("quota sinks", x, 2, 3, NONE, 4888884, 0, 2, 1703706, 0);
        due.votes("quota sinks", x, 2, 2111116, 0, 2000000, 1000000);
        due.elected("quota sinks", x, 0, 2);
    }

    /** By hand: nobody is ELECTED at first, so EXCESS is 0 and one goes OUT in each ROUND. */
    private static void outWithSmallExcess() {
        SeatCounts x = new SeatCounts();
        x.pile(0x1, 4);
        x.pile(0x2, 3);
        x.pile(0x23, 2);
        due.is("out", x.count(3, 1), 2);
        due.stage("out", x, 0, 4, 2, 0, 0, 0, 4500001, 0);
        due.votes("out", x, 0, 4000000, 3000000, 2000000);
        due.status("out", x, 0, 0, 0, 2);
        keeps("out", x, 0, 1000000, 1000000, 1000000);
        due.stage("out", x, 1, 3, NONE, 0, 0, 1, 4500001, 0);
        due.votes("out", x, 1, 4000000, 5000000, 0);
        due.status("out", x, 1, 0, 1, 2);
        keeps("out", x, 1, 1000000, 1000000, 0);
        due.elected("out", x, 1);
    }

    /** At STAGE 2 1 is 1 unit short of QUOTA: EXCESS is 3199991 and 7 of the others, not 1 less. */
    private static void belowQuotaIsNoExcess() {
        SeatCounts x = new SeatCounts();
        x.candidates(5);
        x.pile(0x124, 8);
        due.is("below quota", x.count(3, 4), 21);
        due.votes("below quota", x, 1, 0, 6399992, 0, 1600008, 0);
        due.votes("below quota", x, 2, 4799992, 1600000, 0, 1600008, 0);
        due.stage("below quota", x, 2, 3, NONE, 0, 0, 3, 1600001, 3199998);
        keeps("below quota", x, 3, 333335, 250002, 1000000, 200001, 1000000);
        due.elected("below quota", x, 3, 1, 0, 2);
    }

    /** The KEEP can't fall below 1, so EXCESS stays at 1168, above 1000, from STAGE 14 to 15. */
    private static void noProgress() {
        SeatCounts x = new SeatCounts();
        x.pile(0x1, 388);
        x.pile(0x1, 435);
        x.pile(0x1, 434);
        x.pile(0x1, 496);
        due.is("no progress", x.count(3, 2), 17);
        due.stage("no progress", x, 14, 3, NONE, 1752998247, 0, 1, 585, 1168);
        due.stage("no progress", x, 15, 4, 2, 1752998247, 0, 1, 585, 1168);
        keeps("no progress", x, 15, 1, 1000000, 1000000);
        keeps("no progress", x, 16, 1, 1000000, 0);
        due.stage("no progress", x, 16, 3, NONE, 1752998247, 0, 2, 585, 0);
        due.elected("no progress", x, 0, 1);
    }

    /** 0 has no votes at STAGE 22 and keeps all again; behind an OUT like EXCESS is no standstill. */
    private static void noVotesAndStage60() {
        SeatCounts x = new SeatCounts();
        x.candidates(8);
        x.pile(0x12, 294);
        x.pile(0x12, 262);
        x.pile(0x13, 370);
        x.pile(0x12, 378);
        due.is("stage 60", x.count(3, 5), 62);
        due.is("no votes", x.votes(22, 0), 0);
        due.is("though ELECTED", x.status(22, 0), 1);
        keeps("no votes", x, 22, 1, 1, 2);
        keeps("no votes", x, 23, 1000000, 1, 1);
        due.stage("EXCESS grew", x, 23, 4, 7, 0, 0, 3, 217333334, 1086665362);
        due.stage("like EXCESS behind an OUT", x, 24, 3, NONE, 0, 0, 3, 217333334, 1086665362);
        due.is("59 is none of those", x.stage(59, 0), 3);
        due.stage("stage 60", x, 60, 4, 5, 1303835366, 0, 3, 27440, 82314);
        due.stage("stage 60", x, 61, 3, NONE, 1303835366, 0, 5, 27440, 0);
        due.elected("stage 60", x, 1, 2, 0, 3, 4);
    }

    private static void severalForcedOut() {
        SeatCounts x = new SeatCounts();
        x.candidates(10);
        x.pile(0x4135, 365);
        x.pile(0x324, 488);
        due.is("forced", x.count(3, 7), 63);
        due.is("forced", x.stage(59, 0), 3);
        due.stage("forced", x, 60, 4, 8, 852990498, 0, 5, 1188, 3562);
        due.stage("forced", x, 61, 4, 7, 852990498, 0, 5, 1188, 3562);
        due.stage("forced", x, 62, 3, NONE, 852990498, 0, 7, 1188, 0);
        due.elected("forced", x, 3, 4, 1, 2, 0, 5, 6);
    }
}
