/** Promises 5 to 7: pile, change, about. */
public final class PilesTest {
    private static final Due due = new Due("PilesTest");

    public static void main(String[] args) {
        preferences();
        papers();
        full();
        change();
        about();
        valid();
        due.end();
    }

    private static void preferences() {
        SeatCounts x = new SeatCounts();
        due.is("pile(1)", x.pile(0x1, 1), 0);
        due.is("pile(321)", x.pile(0x321, 1), 1);
        long[] wrong = {
            0, 0x10, 0x4, 0xF, 0x11, 0x101, 0x131, 0x201, 0x1230, 0x4321, 0x3210321, -1,
            Long.MIN_VALUE, Long.MAX_VALUE, 0x1000000000000001L, 0x8000000000000001L, 0xF000000000000321L,
        };
        for (long p : wrong) {
            due.is("pile(" + Long.toHexString(p) + ")", x.pile(p, 1), SeatCounts.OUTSIDE);
        }
        due.is("told(1) behind refusals", x.told(1), 2);
        due.is("the last digit is first", x.about(1, 10), 0);
        due.is("then the next", x.about(1, 11), 1);

        x.candidates(12);
        due.is("12 preferences", x.pile(0x123456789ABCL, 500), 0);
        due.is("the first of 12", x.about(0, 10), 11);
        due.is("the last of 12", x.about(0, 21), 0);
        due.is("13 is no CANDIDATE", x.pile(0xD, 1), SeatCounts.OUTSIDE);
        due.is("13 preferences", x.pile(0x1123456789ABCL, 1), SeatCounts.OUTSIDE);
        x.candidates(2);
        due.is("fewer CANDIDATES", x.pile(0x3, 1), SeatCounts.OUTSIDE);
    }

    private static void papers() {
        SeatCounts x = new SeatCounts();
        int[] wrong = {0, -1, 501, Integer.MIN_VALUE, Integer.MAX_VALUE};
        for (int papers : wrong) {
            due.is("pile(1, " + papers + ")", x.pile(1, papers), SeatCounts.OUTSIDE);
        }
        due.is("pile(1, 500)", x.pile(1, 500), 0);
        due.is("pile(1, 1)", x.pile(1, 1), 1);
    }

    private static void full() {
        SeatCounts x = new SeatCounts();
        for (int k = 0; k < 80; k++) {
            due.is("pile " + k, x.pile(0x21, 2), k);
        }
        due.is("pile 80", x.pile(0x21, 2), SeatCounts.FULL);
        due.is("OUTSIDE comes first: preferences", x.pile(0x4, 2), SeatCounts.OUTSIDE);
        due.is("OUTSIDE comes first: papers", x.pile(0x1, 0), SeatCounts.OUTSIDE);
        due.is("told(1)", x.told(1), 80);
        due.is("told(2)", x.told(2), 160);
        due.is("the last one", x.about(79, 0), 2);
        due.is("count", x.count(0, 1), 1);
        due.is("lies", x.lies(0, 79, 0), 0);
        due.is("candidates", x.candidates(3), 3);
        due.is("there is room again", x.pile(0x1, 1), 0);
    }

    private static void change() {
        SeatCounts x = new SeatCounts();
        x.pile(0x1, 3);
        x.pile(0x2, 4);
        due.is("change(1, 500)", x.change(1, 500), 4);
        due.is("change(1, 1)", x.change(1, 1), 500);
        due.is("change(1, 0)", x.change(1, 0), SeatCounts.OUTSIDE);
        due.is("change(1, 501)", x.change(1, 501), SeatCounts.OUTSIDE);
        due.is("change(2, 1)", x.change(2, 1), SeatCounts.UNKNOWN);
        due.is("change(-1, 0): UNKNOWN comes first", x.change(-1, 0), SeatCounts.UNKNOWN);
        due.is("behind refusals", x.about(1, 0), 1);
        due.is("the other one stays", x.about(0, 0), 3);
        x.count(0, 1);
        x.change(0, 9);
        due.is("the COUNT is of then", x.votes(0, 0), 300000);
        due.is("a COUNT of now", x.count(0, 1), 1);
        due.is("has them", x.votes(0, 0), 900000);
    }

    private static void about() {
        SeatCounts x = new SeatCounts();
        x.candidates(4);
        x.pile(0x31, 17);
        due.is("about(0, 0)", x.about(0, 0), 17);
        due.is("about(0, 1)", x.about(0, 1), 2);
        due.is("about(0, 2)", x.about(0, 2), 1);
        due.is("about(0, 10)", x.about(0, 10), 0);
        due.is("about(0, 11)", x.about(0, 11), 2);
        for (int what = 12; what < 22; what++) {
            due.is("about(0, " + what + ")", x.about(0, what), SeatCounts.NONE);
        }
        int[] wrong = {-1, 3, 9, 22, Integer.MIN_VALUE, Integer.MAX_VALUE};
        for (int what : wrong) {
            due.is("about(0, " + what + ")", x.about(0, what), SeatCounts.OUTSIDE);
        }
        due.is("about(1, 0)", x.about(1, 0), SeatCounts.UNKNOWN);
        due.is("about(-1, 3): UNKNOWN comes first", x.about(-1, 3), SeatCounts.UNKNOWN);
    }

    private static void valid() {
        SeatCounts x = new SeatCounts();
        x.pile(0x31, 10);
        x.pile(0x2, 5);
        x.withdraw(0, true);
        due.is("one is left", x.about(0, 2), 1);
        x.withdraw(2, true);
        due.is("none is left", x.about(0, 2), 0);
        due.is("the other PILE", x.about(1, 2), 1);
        due.is("papers of VALID ones", x.told(2), 5);
        due.is("preferences stay", x.about(0, 10), 0);
        x.withdraw(0, false);
        due.is("one is back", x.about(0, 2), 1);
    }
}
