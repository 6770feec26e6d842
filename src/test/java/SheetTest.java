/** Promises 15 to 17: sheet, forge, check. */
public final class SheetTest {
    private static final int UNKNOWN = SeatCounts.UNKNOWN, STATE = SeatCounts.STATE;
    private static final Due due = new Due("SheetTest");

    public static void main(String[] args) {
        noSheet();
        forged();
        madeAnew();
        due.end();
    }

    private static void noSheet() {
        SeatCounts x = new SeatCounts();
        due.is("sheet(0, 0)", x.sheet(0, 0), UNKNOWN);
        due.is("forge(0, 0, 1)", x.forge(0, 0, 1), UNKNOWN);
        due.is("check()", x.check(), STATE);
    }

    private static SeatCounts counted() {
        SeatCounts x = new SeatCounts();
        x.pile(0x1, 4);
        x.pile(0x2, 3);
        x.pile(0x23, 2);
        x.count(0, 1);
        return x;
    }

    private static void forged() {
        SeatCounts x = counted();
        due.is("check() as made", x.check(), 1);
        due.is("sheet(1, 1)", x.sheet(1, 1), 500000);
        due.is("forge(1, 1, MIN)", x.forge(1, 1, Long.MIN_VALUE), 500000);
        due.is("sheet(1, 1) forged", x.sheet(1, 1), Long.MIN_VALUE);
        due.is("votes stay", x.votes(1, 1), 500000);
        due.is("check(): STAGE 1", x.check(), -21);
        due.is("forge(0, 2, 7)", x.forge(0, 2, 7), 200000);
        due.is("check(): the first STAGE", x.check(), -20);
        due.is("forge(0, 2) back", x.forge(0, 2, 200000), 7);
        due.is("check(): STAGE 1 still", x.check(), -21);
        due.is("forge(1, 1) back", x.forge(1, 1, 500000), Long.MIN_VALUE);
        due.is("check() as made again", x.check(), 1);
        due.is("forge to what it is", x.forge(0, 0, 400000), 400000);
        due.is("check() is as made", x.check(), 1);

        due.is("sheet(2, 0)", x.sheet(2, 0), UNKNOWN);
        due.is("sheet(-1, 0)", x.sheet(-1, 0), UNKNOWN);
        due.is("sheet(0, 3)", x.sheet(0, 3), UNKNOWN);
        due.is("sheet(0, -1)", x.sheet(0, -1), UNKNOWN);
        due.is("forge(2, 0, 9)", x.forge(2, 0, 9), UNKNOWN);
        due.is("forge(0, 3, 9)", x.forge(0, 3, 9), UNKNOWN);
        due.is("forge(0, -1, 9)", x.forge(0, -1, 9), UNKNOWN);
        due.is("check() behind refusals", x.check(), 1);
    }

    private static void madeAnew() {
        SeatCounts x = counted();
        x.forge(0, 0, 1);
        x.count(4, 1);
        due.is("a refused COUNT leaves THE SHEET", x.check(), -20);
        x.change(0, 9);
        x.withdraw(1, true);
        due.is("THE SHEET is of then", x.sheet(1, 1), 500000);
        x.count(0, 1);
        due.is("check() of a new COUNT", x.check(), 1);
        due.is("sheet(0, 0) of a new COUNT", x.sheet(0, 0), 900000);
        due.is("a withdrawn one's number", x.forge(0, 1, 3), 0);
        due.is("is held against the COUNT, too", x.check(), -20);
        x.count(3, 1);
        due.is("by RULE 3", x.sheet(0, 0), 9000000);
        x.forge(0, 2, -1);
        due.is("check() by RULE 3", x.check(), -20);
    }
}
