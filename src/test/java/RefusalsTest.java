import java.util.ArrayList;
import java.util.List;
import java.util.function.ToLongFunction;

/**
 * "REFUSALS, the first of these that fits: UNKNOWN, OUTSIDE, STATE, FULL. They change nothing."
 * In 15 states: the first number that is refused on either side, which refusal comes first where
 * several fit, and that all that the face tells is the same behind a refused call as ahead of it.
 */
public final class RefusalsTest {
    private static final int UNKNOWN = SeatCounts.UNKNOWN, OUTSIDE = SeatCounts.OUTSIDE;
    private static final int STATE = SeatCounts.STATE, FULL = SeatCounts.FULL, NONE = SeatCounts.NONE;
    private static final int MIN = Integer.MIN_VALUE, MAX = Integer.MAX_VALUE;
    private static final Due due = new Due("RefusalsTest");

    /** A run of calls, and what there is behind it. */
    private static final class State {
        String name;
        Run run = new Run();
        int n = 3;
        int piles;
        boolean allWithdrawn;

        int rule = NONE;
        int stages;
        int countedOnes;
        int countedPiles;
        int withdrawnThen = NONE;

        State(String name) {
            this.name = name;
        }

        State then(ToLongFunction<SeatCounts> call) {
            run = run.then(call);
            return this;
        }

        State candidates(int howMany) {
            name += ", candidates(" + howMany + ")";
            n = howMany;
            piles = 0;
            allWithdrawn = false;
            return then(x -> x.candidates(howMany));
        }

        State pile(long preferences, int papers) {
            piles++;
            return then(x -> x.pile(preferences, papers));
        }

        State withdrawAll() {
            name += ", all withdrawn";
            allWithdrawn = true;
            for (int k = 0; k < n; k++) {
                int c = k;
                then(x -> x.withdraw(c, true));
            }
            return this;
        }

        State count(int by, int seats, int stagesDue) {
            rule = by;
            stages = stagesDue;
            countedOnes = n;
            countedPiles = piles;
            due.is(name + ": count(" + by + ", " + seats + ")", run.made().count(by, seats), stagesDue);
            return then(x -> x.count(by, seats));
        }
    }

    private static final List<String> names = new ArrayList<>();
    private static final List<ToLongFunction<SeatCounts>> calls = new ArrayList<>();
    private static final List<Integer> wants = new ArrayList<>();

    public static void main(String[] args) {
        look(new State("new"));
        look(new State("one CANDIDATE").candidates(1).pile(0x1, 1));
        look(house("no COUNT yet"));
        int[] stages = {4, 4, 4, 2};
        for (int rule = 0; rule < 4; rule++) {
            look(counted(rule, stages[rule]));
            look(counted(rule, stages[rule]).candidates(rule % 2 == 0 ? 2 : 12));
        }
        look(full("full").count(1, 12, 1));
        look(new State("no COUNT").withdrawAll());
        look(counted(2, 4).withdrawAll());
        look(full("full").count(3, 12, 1).withdrawAll());
        due.end();
    }

    /**
     * 34 papers of VALID PILES for 2 seats: QUOTA 12. 0 passes 8 on to 1, which has 11 then; 3 and 2 go
     * OUT. By RULE 3 QUOTA is 11333334, and 1 has 11666660 at STAGE 1.
     */
    private static State house(String name) {
        return new State(name).candidates(5)
                .pile(0x321, 20).pile(0x32, 3).pile(0x543, 6).pile(0x14, 5).pile(0x5, 9)
                .then(x -> x.lot(0, 3))
                .then(x -> x.withdraw(4, true));
    }

    private static State counted(int rule, int stages) {
        State s = house("counted by RULE " + rule).count(rule, 2, stages)
                .then(x -> x.forge(0, 1, 77))
                .pile(0x2, 3)
                .then(x -> x.withdraw(1, true))
                .then(x -> x.withdraw(4, false));
        s.withdrawnThen = 4;
        return s;
    }

    private static State full(String name) {
        State s = new State(name).candidates(12);
        for (int k = 0; k < 80; k++) {
            s.pile(1 + k % 12 | (1 + (k + 5) % 12) << 4, 1 + k * k % 50);
        }
        return s;
    }

    private static void look(State s) {
        names.clear();
        calls.clear();
        wants.clear();
        ofCandidates(s);
        ofPile(s);
        ofChangeAndAbout(s);
        ofCount(s);
        ofStage(s);
        ofCells(s);
        ofLies(s);
        ofPairs(s);
        List<Long> ahead = Look.at(s.run);
        for (int k = 0; k < calls.size(); k++) {
            String at = s.name + ": " + names.get(k);
            due.is(at, calls.get(k).applyAsLong(s.run.made()), wants.get(k));
            due.holds(at + " changes nothing", Look.at(s.run.then(calls.get(k))).equals(ahead));
        }
    }

    private static void refused(int want, String name, ToLongFunction<SeatCounts> call) {
        names.add(name);
        calls.add(call);
        wants.add(want);
    }

    private static void ofCandidates(State s) {
        for (int n : new int[] {0, 13, -1, MIN, MAX}) {
            refused(OUTSIDE, "candidates(" + n + ")", x -> x.candidates(n));
        }
        for (int c : new int[] {-1, s.n, MIN, MAX}) {
            refused(UNKNOWN, "withdraw(" + c + ", true)", x -> x.withdraw(c, true));
            refused(UNKNOWN, "withdraw(" + c + ", false)", x -> x.withdraw(c, false));
            refused(UNKNOWN, "lot(" + c + ", 0)", x -> x.lot(c, 0));
            refused(UNKNOWN, "lot(" + c + ", -1), OUTSIDE fits, too", x -> x.lot(c, -1));
        }
        for (int lot : new int[] {-1, s.n, MIN, MAX}) {
            refused(OUTSIDE, "lot(0, " + lot + ")", x -> x.lot(0, lot));
            refused(OUTSIDE, "lot(n - 1, " + lot + ")", x -> x.lot(s.n - 1, lot));
        }
    }

    private static void ofPile(State s) {
        long[] wrong = {0, s.n + 1, 0x11, 0x10, 1L << 60 | 1, Long.MIN_VALUE, -1};
        for (long p : wrong) {
            String hex = Long.toHexString(p);
            refused(OUTSIDE, "pile(0x" + hex + ", 1)", x -> x.pile(p, 1));
            refused(OUTSIDE, "pile(0x" + hex + ", 501)", x -> x.pile(p, 501));
        }
        for (int papers : new int[] {0, 501, -1, MIN, MAX}) {
            refused(OUTSIDE, "pile(1, " + papers + ")", x -> x.pile(1, papers));
        }
        if (s.piles == 80) {
            refused(FULL, "pile(1, 1)", x -> x.pile(1, 1));
            refused(FULL, "pile(12 preferences, 500)", x -> x.pile(0xCBA987654321L, 500));
        }
    }

    private static void ofChangeAndAbout(State s) {
        for (int p : new int[] {-1, s.piles, 80, MIN, MAX}) {
            refused(UNKNOWN, "change(" + p + ", 1)", x -> x.change(p, 1));
            refused(UNKNOWN, "change(" + p + ", 0), OUTSIDE fits, too", x -> x.change(p, 0));
            refused(UNKNOWN, "about(" + p + ", 0)", x -> x.about(p, 0));
            refused(UNKNOWN, "about(" + p + ", 3), OUTSIDE fits, too", x -> x.about(p, 3));
        }
        if (s.piles > 0) {
            for (int papers : new int[] {0, 501, -1, MIN, MAX}) {
                refused(OUTSIDE, "change(0, " + papers + ")", x -> x.change(0, papers));
            }
            for (int what : new int[] {-1, 3, 9, 22, MIN, MAX}) {
                refused(OUTSIDE, "about(0, " + what + ")", x -> x.about(0, what));
            }
        }
    }

    private static void ofCount(State s) {
        for (int wrong : new int[] {-1, 4, MIN, MAX}) {
            refused(OUTSIDE, "count(" + wrong + ", 1)", x -> x.count(wrong, 1));
        }
        for (int wrong : new int[] {0, 13, -1, MIN, MAX}) {
            refused(OUTSIDE, "count(0, " + wrong + ")", x -> x.count(0, wrong));
            refused(OUTSIDE, "count(3, " + wrong + ")", x -> x.count(3, wrong));
        }
        if (s.allWithdrawn) {
            for (int k = 0; k < 4; k++) {
                int rule = k;
                refused(STATE, "count(" + rule + ", 1)", x -> x.count(rule, 1));
                refused(STATE, "count(" + rule + ", 12)", x -> x.count(rule, 12));
            }
        }
    }

    private static void ofStage(State s) {
        for (int i : new int[] {-1, s.stages, 72, MIN, MAX}) {
            refused(UNKNOWN, "stage(" + i + ", 0)", x -> x.stage(i, 0));
            refused(UNKNOWN, "stage(" + i + ", 7), OUTSIDE fits, too", x -> x.stage(i, 7));
        }
        if (s.stages > 0) {
            for (int what : new int[] {-1, 7, MIN, MAX}) {
                refused(OUTSIDE, "stage(0, " + what + ")", x -> x.stage(0, what));
            }
        } else {
            refused(STATE, "check()", SeatCounts::check);
        }
    }

    /** votes, status, keep, sheet and forge, each of a STAGE and a CANDIDATE. */
    private static void ofCells(State s) {
        for (int i : new int[] {-1, s.stages, 72, MIN, MAX}) {
            ofCell(UNKNOWN, i, 0);
            ofCell(UNKNOWN, i, s.countedOnes);
            refused(UNKNOWN, "keep(" + i + ", 0)", x -> x.keep(i, 0));
        }
        for (int c : new int[] {-1, s.countedOnes, 12, MIN, MAX}) {
            ofCell(UNKNOWN, 0, c);
            refused(UNKNOWN, "keep(0, " + c + ")", x -> x.keep(0, c));
        }
        if (s.stages > 0 && s.rule != 3) {
            refused(STATE, "keep(0, 0) not by RULE 3", x -> x.keep(0, 0));
        }
        if (s.withdrawnThen != NONE) {
            refused(STATE, "keep of one that was withdrawn", x -> x.keep(s.stages - 1, s.withdrawnThen));
        }
    }

    private static void ofCell(int want, int i, int c) {
        String cell = "(" + i + ", " + c + ")";
        refused(want, "votes" + cell, x -> x.votes(i, c));
        refused(want, "status" + cell, x -> x.status(i, c));
        refused(want, "sheet" + cell, x -> x.sheet(i, c));
        refused(want, "forge" + cell, x -> x.forge(i, c, 4711));
    }

    private static void ofLies(State s) {
        for (int i : new int[] {-1, s.stages, 72, MIN, MAX}) {
            refused(UNKNOWN, "lies(" + i + ", 0, 0)", x -> x.lies(i, 0, 0));
            refused(UNKNOWN, "lies(" + i + ", 0, 2), OUTSIDE fits, too", x -> x.lies(i, 0, 2));
        }
        if (s.stages == 0) {
            return;
        }
        boolean byKeeps = s.rule == 3;
        for (int p : new int[] {-1, s.countedPiles, 80, MIN, MAX}) {
            refused(byKeeps ? STATE : UNKNOWN, "lies(0, " + p + ", 0)", x -> x.lies(0, p, 0));
            refused(byKeeps ? STATE : UNKNOWN, "lies(0, " + p + ", 1)", x -> x.lies(0, p, 1));
            refused(byKeeps ? OUTSIDE : UNKNOWN, "lies(0, " + p + ", 2)", x -> x.lies(0, p, 2));
        }
        for (int what : new int[] {-1, 2, MIN, MAX}) {
            refused(OUTSIDE, "lies(0, 0, " + what + ")", x -> x.lies(0, 0, what));
        }
        if (byKeeps) {
            refused(STATE, "lies(0, 0, 0)", x -> x.lies(0, 0, 0));
        }
    }

    private static void ofPairs(State s) {
        for (int c : new int[] {-1, s.n, MIN, MAX}) {
            refused(UNKNOWN, "prefer(" + c + ", 0)", x -> x.prefer(c, 0));
            refused(UNKNOWN, "prefer(0, " + c + ")", x -> x.prefer(0, c));
            refused(UNKNOWN, "prefer(" + c + ", " + c + "), STATE fits, too", x -> x.prefer(c, c));
            refused(UNKNOWN, "leads(" + c + ")", x -> x.leads(c));
            refused(UNKNOWN, "points(" + c + ")", x -> x.points(c));
        }
        refused(STATE, "prefer(0, 0)", x -> x.prefer(0, 0));
        refused(STATE, "prefer(n - 1, n - 1)", x -> x.prefer(s.n - 1, s.n - 1));
        for (int what : new int[] {-1, 7, MIN, MAX}) {
            refused(OUTSIDE, "told(" + what + ")", x -> x.told(what));
        }
    }
}
