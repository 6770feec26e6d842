import java.util.ArrayList;
import java.util.List;

/** Holds answers against what is due; prints each one that is wrong and ends with 1 if there was one. */
final class Due {
    private final String test;
    private final List<String> wrong = new ArrayList<>();
    private long looks;

    Due(String test) {
        this.test = test;
    }

    void is(String call, long got, long want) {
        looks++;
        if (got != want) {
            wrong.add(call + " answered " + got + ", due is " + want);
        }
    }

    void holds(String what, boolean is) {
        looks++;
        if (!is) {
            wrong.add("not so: " + what);
        }
    }

    /** The votes of all CANDIDATES behind a STAGE. */
    void votes(String where, SeatCounts x, int stage, long... want) {
        for (int c = 0; c < want.length; c++) {
            is(where + " votes(" + stage + ", " + c + ")", x.votes(stage, c), want[c]);
        }
    }

    /** What all CANDIDATES are behind a STAGE. */
    void status(String where, SeatCounts x, int stage, int... want) {
        for (int c = 0; c < want.length; c++) {
            is(where + " status(" + stage + ", " + c + ")", x.status(stage, c), want[c]);
        }
    }

    /** What a STAGE tells, from 0 on. */
    void stage(String where, SeatCounts x, int stage, long... want) {
        for (int what = 0; what < want.length; what++) {
            is(where + " stage(" + stage + ", " + what + ")", x.stage(stage, what), want[what]);
        }
    }

    /** All who were ELECTED, in their order, and NONE behind them. */
    void elected(String where, SeatCounts x, int... want) {
        for (int k = 0; k < want.length; k++) {
            is(where + " elected(" + k + ")", x.elected(k), want[k]);
        }
        is(where + " elected(" + want.length + ")", x.elected(want.length), SeatCounts.NONE);
        is(where + " told(4)", x.told(4), want.length);
    }

    /** Where a PILE lies behind a STAGE, and with which value. */
    void lies(String where, SeatCounts x, int stage, int pile, int holder, int value) {
        is(where + " lies(" + stage + ", " + pile + ", 0)", x.lies(stage, pile, 0), holder);
        is(where + " lies(" + stage + ", " + pile + ", 1)", x.lies(stage, pile, 1), value);
    }

    void end() {
        for (String line : wrong) {
            System.out.println(test + ": " + line);
        }
        System.out.println(test + ": " + looks + " answers, " + wrong.size() + " not as due");
        if (!wrong.isEmpty()) {
            System.exit(1);
        }
    }
}
