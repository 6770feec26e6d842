import java.util.ArrayList;
import java.util.List;
import java.util.function.ToLongFunction;

/** As many CANDIDATES, PILES and papers as there may be, and arguments from all over the numbers. */
public final class FullHouseTest {
    private static final int[] ODD = {
        Integer.MIN_VALUE, Integer.MIN_VALUE + 1, -21, -1, 0, 1, 2, 3, 11, 12, 13, 59, 60, 71, 72, 79, 80,
        357913942, 1 << 28, Integer.MAX_VALUE - 1, Integer.MAX_VALUE,
    };
    private static final Due due = new Due("FullHouseTest");

    public static void main(String[] args) {
        allUnitsAreSomewhere();
        mostVotes();
        pairs();
        eachPileAtEachStage();
        stages();
        oddArguments();
        due.end();
    }

    /** 80 PILES of 500 papers, each beginning one further on than the one ahead, with all 12 or fewer. */
    private static SeatCounts house(int longest) {
        SeatCounts x = new SeatCounts();
        x.candidates(12);
        for (int k = 0; k < 80; k++) {
            long preferences = 0;
            int length = 1 + k % longest;
            for (int j = length - 1; j >= 0; j--) {
                preferences = preferences << 4 | (1 + (k * k + j) % 12);
            }
            due.is("pile " + k, x.pile(preferences, 500 - k % 7), k);
        }
        return x;
    }

    private static void allUnitsAreSomewhere() {
        for (int longest = 1; longest <= 12; longest++) {
            SeatCounts x = house(longest);
            for (int rule = 0; rule < 4; rule++) {
                for (int seats = 1; seats <= 12; seats++) {
                    int stages = x.count(rule, seats);
                    long paper = rule == 3 ? 1000000 : 100000;
                    for (int i = 0; i < stages; i++) {
                        long sum = x.stage(i, 2) + x.stage(i, 3);
                        for (int c = 0; c < 12; c++) {
                            sum += x.votes(i, c);
                        }
                        due.is("units, rule " + rule + ", seats " + seats + ", stage " + i, sum, x.told(2) * paper);
                    }
                    due.is("as many as seats, rule " + rule, x.told(4), seats);
                    due.is("check()", x.check(), 1);
                }
            }
        }
    }

    /** 40000 papers: more units than an int holds. */
    private static void mostVotes() {
        SeatCounts x = new SeatCounts();
        x.candidates(12);
        for (int k = 0; k < 80; k++) {
            x.pile(0x21, 500);
        }
        due.is("rule 0", x.count(0, 2), 2);
        due.stage("rule 0", x, 0, 0, SeatCounts.NONE, 0, 0, 1, 1333400000, 0);
        due.is("rule 0, votes", x.votes(0, 0), 4000000000L);
        due.is("rule 0, value", x.lies(1, 79, 1), 66665);
        due.is("rule 0, votes then", x.votes(1, 1), 2666600000L);
        due.is("rule 1", x.count(1, 2), 2);
        due.is("rule 1, votes then", x.votes(1, 1), 2666600000L);
        due.is("rule 2", x.count(2, 2), 2);
        due.is("rule 2, votes then", x.votes(1, 1), 2666600000L);
        due.is("rule 3", x.count(3, 2), 2);
        due.stage("rule 3", x, 0, 3, SeatCounts.NONE, 0, 0, 1, 13333333334L, 26666666666L);
        due.is("rule 3, votes", x.votes(0, 0), 40000000000L);
        due.is("rule 3, keep", x.keep(1, 0), 333334);
        due.is("rule 3, votes then", x.votes(1, 1), 26666640000L);
        due.is("prefer", x.prefer(0, 1), 40000);
        due.is("points", x.points(0), 440000);
        due.is("told(2)", x.told(2), 40000);
    }

    private static void pairs() {
        SeatCounts x = house(12);
        int sum = 0;
        for (int a = 0; a < 12; a++) {
            int points = 0;
            for (int b = 0; b < 12; b++) {
                points += b == a ? 0 : x.prefer(a, b);
            }
            due.is("points(" + a + ")", x.points(a), points);
            due.holds("leads(" + a + ")", x.leads(a) >= 0 && x.leads(a) <= 12);
            due.is("lot(" + a + ")", x.lot(a, 11 - a), a <= 5 ? a : 11 - a);
        }
        for (int a = 0; a < 12; a++) {
            sum += x.withdraw(a, true);
        }
        due.is("all are withdrawn", sum, 12);
        due.is("told(6)", x.told(6), 12);
        due.is("told(2)", x.told(2), 0);
        due.is("winner()", x.winner(), SeatCounts.NONE);
        due.is("count", x.count(0, 1), SeatCounts.STATE);
    }

    /**
     * 80 PILES over 12 STAGES. c has 20 - c papers in each of its PILES, so they go OUT from 11 down; the
     * PILES of odd ones go on to 0, which has 575 of 1176 papers till 1 goes OUT, the others nowhere.
     */
    private static void eachPileAtEachStage() {
        Run run = new Run().then(x -> x.candidates(12));
        for (int k = 0; k < 80; k++) {
            int c = k % 12;
            run = run.then(x -> x.pile(c % 2 == 1 ? 0x10 | c + 1 : c + 1, 20 - c));
        }
        for (int rule = 0; rule < 3; rule++) {
            int by = rule;
            due.is("80 PILES, rule " + rule, run.made().count(rule, 1), 12);
            List<ToLongFunction<SeatCounts>> questions = new ArrayList<>();
            for (int k = 0; k < 12 * 80; k++) {
                int stage = k / 80;
                int pile = k % 80;
                questions.add(x -> x.lies(stage, pile, 0));
                questions.add(x -> x.lies(stage, pile, 1));
            }
            long[] got = run.then(x -> x.count(by, 1)).answers(questions);
            for (int k = 0; k < 12 * 80; k++) {
                int c = k % 80 % 12;
                boolean hopeful = c < 12 - k / 80;
                long holder = hopeful ? c : c % 2 == 1 ? 0 : SeatCounts.NONE;
                String at = "STAGE " + k / 80 + ", PILE " + k % 80 + ", rule " + rule;
                due.is(at + ": with whom", got[2 * k], holder);
                due.is(at + ": value", got[2 * k + 1], holder == SeatCounts.NONE ? 0 : 100000);
            }
        }
    }

    /** 12 CANDIDATES without a paper, one seat: 11 go OUT. */
    private static void stages() {
        SeatCounts x = new SeatCounts();
        x.candidates(12);
        for (int rule = 0; rule < 4; rule++) {
            due.is("rule " + rule, x.count(rule, 1), 12);
            due.is("the last STAGE", x.stage(11, 4), 1);
            due.is("votes(11, 11)", x.votes(11, 11), 0);
            due.is("votes(12, 0)", x.votes(12, 0), SeatCounts.UNKNOWN);
            due.elected("no papers", x, 0);
        }
    }

    /** What counts here is that each of these comes back. */
    private static void oddArguments() {
        for (int rule = -1; rule < 4; rule++) {
            SeatCounts x = house(5);
            x.count(rule, 3);
            for (int a : ODD) {
                x.elected(a);
                x.leads(a);
                x.points(a);
                x.told(a);
                for (int b : ODD) {
                    x.lot(a, b);
                    x.pile(a * (long) b, b);
                    x.change(a, b);
                    x.about(a, b);
                    x.stage(a, b);
                    x.votes(a, b);
                    x.status(a, b);
                    x.keep(a, b);
                    x.sheet(a, b);
                    x.forge(a, b, a);
                    x.prefer(a, b);
                    for (int c : ODD) {
                        x.lies(a, b, c);
                    }
                }
            }
            due.holds("check() answers", x.check() != 0);
            for (int a : ODD) {
                x.withdraw(a, true);
                for (int b : ODD) {
                    x.count(a, b);
                }
                x.candidates(a);
                x.winner();
            }
        }
    }
}
