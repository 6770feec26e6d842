/** Promises 5 to 7: pile, change, about. A test for each sentence. */
public final class PilesTest {
    private static final int UNKNOWN = SeatCounts.UNKNOWN, OUTSIDE = SeatCounts.OUTSIDE;
    private static final int FULL = SeatCounts.FULL, NONE = SeatCounts.NONE;
    private static final Due due = new Due("PilesTest");

    public static void main(String[] args) {
        numberedAsTheyCome();
        lastDigitFirst();
        noPreference();
        noCandidate();
        twoAlike();
        behindZero();
        asManyAsCandidates();
        papersOfPile();
        full();
        outsideAheadOfFull();
        changeAnswersWhatItHad();
        changeUnknown();
        changeOutside();
        changeFromNowOn();
        aboutPapersAndLength();
        aboutPreferences();
        aboutUnknown();
        aboutOutside();
        validByTheLastOne();
        validAgain();
        due.end();
    }

    private static void refused(SeatCounts x, long preferences) {
        int ahead = x.told(1);
        due.is("pile(0x" + Long.toHexString(preferences) + ", 1)", x.pile(preferences, 1), OUTSIDE);
        due.is("told(1) behind it", x.told(1), ahead);
    }

    // ---- Promise 5

    /** "A PILE: its number." A refused one takes none, a like one is a PILE of its own. */
    private static void numberedAsTheyCome() {
        SeatCounts x = new SeatCounts();
        due.is("the first", x.pile(0x1, 1), 0);
        due.is("the second", x.pile(0x321, 1), 1);
        due.is("a refused one", x.pile(0x4, 1), OUTSIDE);
        due.is("the third", x.pile(0x321, 1), 2);
        due.is("told(1)", x.told(1), 3);
    }

    /** "digits to the base 16, the last one first: a CANDIDATE and 1; 0s end." */
    private static void lastDigitFirst() {
        SeatCounts x = new SeatCounts();
        x.candidates(12);
        x.pile(0x2C1, 1);
        due.is("first", x.about(0, 10), 0);
        due.is("second", x.about(0, 11), 11);
        due.is("third", x.about(0, 12), 1);
        due.is("then 0s end", x.about(0, 13), NONE);
        due.is("how many", x.about(0, 1), 3);
    }

    /** "OUTSIDE: there is none" */
    private static void noPreference() {
        for (int n = 1; n <= 12; n++) {
            SeatCounts x = new SeatCounts();
            x.candidates(n);
            refused(x, 0);
            due.is("one", x.pile(0x1, 1), 0);
        }
    }

    /** "one that is no CANDIDATE": n and 1 at each place, the last digit and the sixteenth. */
    private static void noCandidate() {
        for (int n = 1; n <= 12; n++) {
            SeatCounts x = new SeatCounts();
            x.candidates(n);
            due.is("the last one, of " + n, x.pile(n, 1), 0);
            for (int digit = n + 1; digit < 16; digit++) {
                refused(x, digit);
                refused(x, digit << 4 | 1);
            }
        }
        SeatCounts x = new SeatCounts();
        x.candidates(12);
        refused(x, 0xD23456789ABCL);
        refused(x, 0xD123456789ABCL);
        refused(x, 0xFEDCBA987654321L);
        refused(x, 0xFEDCBA9876543210L);
        refused(x, -1);
        x.candidates(2);
        refused(x, 0x3);
    }

    /** "two alike", side by side, first and last. */
    private static void twoAlike() {
        SeatCounts x = new SeatCounts();
        refused(x, 0x11);
        refused(x, 0x121);
        refused(x, 0x221);
        refused(x, 0x3321);
        refused(x, 0x1321);
        x.candidates(12);
        refused(x, 0x1BA987654321L);
        refused(x, 0x1CBA987654321L);
        refused(x, 0xCCBA987654321L);
        due.is("all unlike", x.pile(0xCBA987654321L, 1), 0);
        x.candidates(1);
        refused(x, 0x11);
        refused(x, 0x1111111111111111L);
    }

    /** "one behind a 0": right behind it, behind several, and as the sixteenth digit. */
    private static void behindZero() {
        SeatCounts x = new SeatCounts();
        refused(x, 0x10);
        refused(x, 0x201);
        refused(x, 0x2001);
        refused(x, 0x3021);
        refused(x, 0x3210);
        refused(x, 0x20000000000001L);
        for (int k = 1; k < 16; k++) {
            refused(x, 1L << 4 * k);
            if (k > 1) {
                refused(x, 2L << 4 * k | 1);
            }
        }
        refused(x, Long.MIN_VALUE);
        refused(x, Long.MIN_VALUE | 1);
        x.candidates(12);
        refused(x, 0x8000000000000001L);
        refused(x, 0xC0BA987654321L);
        refused(x, 0x1000000000000002L);
    }

    /** "preferences: 1 to n unlike CANDIDATES" */
    private static void asManyAsCandidates() {
        for (int n = 1; n <= 12; n++) {
            SeatCounts x = new SeatCounts();
            x.candidates(n);
            long all = 0;
            for (int c = 0; c < n; c++) {
                all = all << 4 | (c + 1);
                due.is((c + 1) + " of " + n, x.pile(all, 1), c);
                due.is("how many", x.about(c, 1), c + 1);
                due.is("the first", x.about(c, 10), c);
                due.is("the last", x.about(c, 10 + c), 0);
                due.is("one further", x.about(c, 11 + c), c == 11 ? OUTSIDE : NONE);
            }
        }
    }

    /** "papers are not 1 to 500" */
    private static void papersOfPile() {
        SeatCounts x = new SeatCounts();
        for (int papers : new int[] {0, -1, 501, Integer.MIN_VALUE, Integer.MAX_VALUE}) {
            due.is("pile(1, " + papers + ")", x.pile(1, papers), OUTSIDE);
        }
        due.is("told(1)", x.told(1), 0);
        due.is("pile(1, 500)", x.pile(1, 500), 0);
        due.is("pile(1, 1)", x.pile(1, 1), 1);
        due.is("500", x.about(0, 0), 500);
        due.is("1", x.about(1, 0), 1);
    }

    /** "PILES, 80 at most", "FULL." */
    private static void full() {
        SeatCounts x = new SeatCounts();
        for (int k = 0; k < 80; k++) {
            due.is("pile " + k, x.pile(0x21, 2), k);
        }
        due.is("pile 80", x.pile(0x1, 3), FULL);
        due.is("pile 80 again", x.pile(0x321, 500), FULL);
        due.is("told(1)", x.told(1), 80);
        due.is("told(2)", x.told(2), 160);
        due.is("the last one's papers", x.about(79, 0), 2);
        due.is("the last one's preferences", x.about(79, 1), 2);
        due.is("there is none behind it", x.about(80, 0), UNKNOWN);
        due.is("the last one can be changed", x.change(79, 5), 2);
        due.is("none behind it can", x.change(80, 5), UNKNOWN);
        due.is("count", x.count(0, 1), 1);
        due.is("where the last one lies", x.lies(0, 79, 0), 0);
        due.is("none behind it lies", x.lies(0, 80, 0), UNKNOWN);
        due.is("candidates", x.candidates(3), 3);
        due.is("there is room again", x.pile(0x1, 1), 0);
    }

    /** "the first of these that fits" */
    private static void outsideAheadOfFull() {
        SeatCounts x = new SeatCounts();
        for (int k = 0; k < 80; k++) {
            x.pile(0x21, 2);
        }
        due.is("no preference", x.pile(0, 2), OUTSIDE);
        due.is("no CANDIDATE", x.pile(0x4, 2), OUTSIDE);
        due.is("two alike", x.pile(0x11, 2), OUTSIDE);
        due.is("one behind a 0", x.pile(0x10, 2), OUTSIDE);
        due.is("0 papers", x.pile(0x1, 0), OUTSIDE);
        due.is("501 papers", x.pile(0x1, 501), OUTSIDE);
        due.is("none of these", x.pile(0x1, 500), FULL);
    }

    // ---- Promise 6

    /** "A PILE has so many papers from now on: how many it had." */
    private static void changeAnswersWhatItHad() {
        SeatCounts x = new SeatCounts();
        x.pile(0x1, 3);
        x.pile(0x2, 4);
        due.is("it had 4", x.change(1, 500), 4);
        due.is("it had 500", x.change(1, 500), 500);
        due.is("it had 500 again", x.change(1, 1), 500);
        due.is("it has 1", x.about(1, 0), 1);
        due.is("the other one has 3", x.about(0, 0), 3);
    }

    /** "UNKNOWN" */
    private static void changeUnknown() {
        SeatCounts x = new SeatCounts();
        due.is("no PILES", x.change(0, 1), UNKNOWN);
        x.pile(0x1, 3);
        x.pile(0x2, 4);
        due.is("behind the last", x.change(2, 1), UNKNOWN);
        due.is("ahead of the first", x.change(-1, 1), UNKNOWN);
        due.is("UNKNOWN comes first", x.change(2, 501), UNKNOWN);
        due.is("UNKNOWN comes first", x.change(-1, 0), UNKNOWN);
        due.is("the last", x.change(1, 1), 4);
        x.candidates(3);
        due.is("gone with candidates", x.change(0, 1), UNKNOWN);
    }

    /** "OUTSIDE: papers are not 1 to 500." */
    private static void changeOutside() {
        SeatCounts x = new SeatCounts();
        x.pile(0x1, 3);
        for (int papers : new int[] {0, -1, 501, Integer.MIN_VALUE, Integer.MAX_VALUE}) {
            due.is("change(0, " + papers + ")", x.change(0, papers), OUTSIDE);
        }
        due.is("3 still", x.change(0, 1), 3);
        due.is("1", x.change(0, 500), 1);
        due.is("500", x.change(0, 2), 500);
    }

    /** "from now on": a COUNT made ahead is of then. */
    private static void changeFromNowOn() {
        SeatCounts x = new SeatCounts();
        x.pile(0x1, 3);
        x.count(0, 1);
        x.change(0, 9);
        due.is("the COUNT is of then", x.votes(0, 0), 300000);
        due.is("THE SHEET is of then", x.sheet(0, 0), 300000);
        due.is("check() is of then", x.check(), 1);
        due.is("told(2) is of now", x.told(2), 9);
        due.is("prefer is of now", x.prefer(0, 1), 9);
        due.is("points are of now", x.points(0), 18);
        x.count(0, 1);
        due.is("a COUNT of now", x.votes(0, 0), 900000);
    }

    // ---- Promise 7

    /** "0 how many papers, 1 how many preferences" */
    private static void aboutPapersAndLength() {
        SeatCounts x = new SeatCounts();
        x.candidates(4);
        x.pile(0x31, 17);
        x.pile(0x4, 500);
        due.is("papers", x.about(0, 0), 17);
        due.is("preferences", x.about(0, 1), 2);
        due.is("papers of the other", x.about(1, 0), 500);
        due.is("preferences of the other", x.about(1, 1), 1);
    }

    /** "10 and k: preference k; NONE: it has no such." */
    private static void aboutPreferences() {
        SeatCounts x = new SeatCounts();
        x.candidates(4);
        x.pile(0x4321, 1);
        x.pile(0x31, 1);
        due.is("about(1, 10)", x.about(1, 10), 0);
        due.is("about(1, 11)", x.about(1, 11), 2);
        for (int what = 12; what < 22; what++) {
            due.is("about(1, " + what + ")", x.about(1, what), NONE);
        }
        x.candidates(3);
        x.pile(0x2, 1);
        due.is("a longer PILE was here", x.about(0, 11), NONE);
        x.candidates(12);
        x.pile(0x123456789ABCL, 1);
        for (int k = 0; k < 12; k++) {
            due.is("preference " + k + " of 12", x.about(0, 10 + k), 11 - k);
        }
    }

    /** "UNKNOWN" */
    private static void aboutUnknown() {
        SeatCounts x = new SeatCounts();
        due.is("no PILES", x.about(0, 0), UNKNOWN);
        x.pile(0x1, 3);
        due.is("behind the last", x.about(1, 0), UNKNOWN);
        due.is("ahead of the first", x.about(-1, 0), UNKNOWN);
        due.is("UNKNOWN comes first", x.about(1, 3), UNKNOWN);
        due.is("UNKNOWN comes first", x.about(-1, 22), UNKNOWN);
        due.is("the last", x.about(0, 0), 3);
    }

    /** "OUTSIDE: what is none of 0, 1, 2, 10 to 21." */
    private static void aboutOutside() {
        SeatCounts x = new SeatCounts();
        x.pile(0x1, 3);
        int taken = 0;
        for (int what = -30; what < 60; what++) {
            boolean good = what >= 0 && what <= 2 || what >= 10 && what <= 21;
            due.holds("about(0, " + what + ") is refused: " + !good, x.about(0, what) == OUTSIDE != good);
            taken += good ? 1 : 0;
        }
        due.is("what is taken", taken, 15);
        due.is("about(0, MIN)", x.about(0, Integer.MIN_VALUE), OUTSIDE);
        due.is("about(0, MAX)", x.about(0, Integer.MAX_VALUE), OUTSIDE);
    }

    /** "A PILE is VALID, if it prefers some CANDIDATE that is not withdrawn." The first, the last, none. */
    private static void validByTheLastOne() {
        SeatCounts x = new SeatCounts();
        x.candidates(12);
        x.pile(0xCBA987654321L, 10);
        for (int c = 0; c < 11; c++) {
            x.withdraw(c, true);
            due.is("up to " + c + " are withdrawn", x.about(0, 2), 1);
        }
        due.is("papers of VALID PILES", x.told(2), 10);
        x.withdraw(11, true);
        due.is("all are withdrawn", x.about(0, 2), 0);
        due.is("no papers of VALID PILES", x.told(2), 0);
        x.withdraw(0, false);
        due.is("the first one is not", x.about(0, 2), 1);
    }

    /** Those that it does not prefer don't count; it is VALID again as soon as one is back. */
    private static void validAgain() {
        SeatCounts x = new SeatCounts();
        x.pile(0x31, 10);
        x.pile(0x2, 5);
        x.withdraw(0, true);
        x.withdraw(2, true);
        due.is("1 does not help", x.about(0, 2), 0);
        due.is("the other PILE", x.about(1, 2), 1);
        due.is("papers of VALID ones", x.told(2), 5);
        due.is("papers stay", x.about(0, 0), 10);
        due.is("preferences stay", x.about(0, 10), 0);
        x.withdraw(2, false);
        due.is("one is back", x.about(0, 2), 1);
        due.is("papers of VALID ones then", x.told(2), 15);
        x.withdraw(2, true);
        due.is("a PILE of withdrawn ones is taken", x.pile(0x13, 7), 2);
        due.is("it is not VALID", x.about(2, 2), 0);
    }
}
