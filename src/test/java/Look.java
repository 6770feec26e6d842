import java.util.ArrayList;
import java.util.List;
import java.util.function.ToLongFunction;

/** Everything that the face tells of a state. */
final class Look {
    private final List<ToLongFunction<SeatCounts>> questions = new ArrayList<>();

    private Look() {
    }

    /** All of a state, and what COUNTS by each RULE would tell from there on. */
    static List<Long> at(Run run) {
        Look look = new Look();
        look.house();
        look.count(run.made().told(3));
        List<Long> all = new ArrayList<>();
        look.addAnswers(run, all);
        for (int rule = 0; rule < 4; rule++) {
            int by = rule;
            Run further = run.then(x -> x.count(by, 2));
            Look ahead = new Look();
            ahead.count(further.made().told(3));
            ahead.addAnswers(further, all);
        }
        return all;
    }

    private void addAnswers(Run run, List<Long> all) {
        for (long answer : run.answers(questions)) {
            all.add(answer);
        }
    }

    private void ask(ToLongFunction<SeatCounts> question) {
        questions.add(question);
    }

    private void house() {
        for (int k = 0; k < 7; k++) {
            int what = k;
            ask(x -> x.told(what));
        }
        ask(SeatCounts::winner);
        for (int k = 0; k < 12; k++) {
            int c = k;
            ask(x -> lotOf(x, c));
            ask(x -> x.leads(c));
            ask(x -> x.points(c));
            for (int j = 0; j < 12; j++) {
                int other = j;
                ask(x -> x.prefer(c, other));
            }
        }
        for (int p = 0; p < 80; p++) {
            int pile = p;
            for (int k = 0; k < 3; k++) {
                int what = k;
                ask(x -> x.about(pile, what));
            }
            for (int k = 10; k < 22; k++) {
                int what = k;
                ask(x -> x.about(pile, what));
            }
        }
    }

    private static long lotOf(SeatCounts x, int c) {
        int lot = x.lot(c, 0);
        x.lot(c, lot);
        return lot;
    }

    private void count(int stages) {
        ask(SeatCounts::check);
        for (int k = 0; k < 12; k++) {
            int place = k;
            ask(x -> x.elected(place));
        }
        for (int s = 0; s < stages; s++) {
            stage(s);
        }
    }

    private void stage(int i) {
        for (int k = 0; k < 7; k++) {
            int what = k;
            ask(x -> x.stage(i, what));
        }
        for (int k = 0; k < 12; k++) {
            int c = k;
            ask(x -> x.votes(i, c));
            ask(x -> x.status(i, c));
            ask(x -> x.keep(i, c));
            ask(x -> x.sheet(i, c));
        }
        for (int p = 0; p < 80; p++) {
            int pile = p;
            ask(x -> x.lies(i, pile, 0));
            ask(x -> x.lies(i, pile, 1));
        }
    }
}
