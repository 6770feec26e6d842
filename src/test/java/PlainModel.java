import java.math.BigInteger;
import java.util.ArrayList;
import java.util.Comparator;
import java.util.HashMap;
import java.util.LinkedHashMap;
import java.util.List;
import java.util.Map;

/**
 * The document told once more, with lists and maps and without a thought of cost, to hold
 * SeatCounts against in random runs. It shares no code with it.
 */
final class PlainModel {
    static final int UNKNOWN = -1, OUTSIDE = -2, STATE = -3, FULL = -4, NONE = -9;

    static final class Pile {
        int papers;
        final List<Integer> preferences = new ArrayList<>();
    }

    static final class Stage {
        int kind;
        int who = NONE;
        long notTransferable;
        long lost;
        int elected;
        long quota;
        long excess;
        final Map<Integer, Long> votes = new LinkedHashMap<>();
        final Map<Integer, String> status = new HashMap<>();
        final Map<Integer, Integer> keeps = new HashMap<>();
        final Map<Integer, Integer> holder = new HashMap<>();
        final Map<Integer, Long> value = new HashMap<>();
    }

    static final class Count {
        int rule;
        int seats;
        int candidates;
        int piles;
        final List<Stage> stages = new ArrayList<>();
        final List<Integer> elected = new ArrayList<>();
    }

    private List<Boolean> withdrawn = new ArrayList<>();
    private List<Integer> lots = new ArrayList<>();
    private List<Pile> piles = new ArrayList<>();
    private Count latest;
    private Map<List<Integer>, Long> sheet = new HashMap<>();

    PlainModel() {
        restart(3);
    }

    private void restart(int n) {
        withdrawn = new ArrayList<>();
        lots = new ArrayList<>();
        piles = new ArrayList<>();
        for (int c = 0; c < n; c++) {
            withdrawn.add(false);
            lots.add(c);
        }
    }

    private boolean candidate(int c) {
        return c >= 0 && c < withdrawn.size();
    }

    private boolean isPile(int p) {
        return p >= 0 && p < piles.size();
    }

    int candidates(int n) {
        if (n < 1 || n > 12) return OUTSIDE;
        int before = withdrawn.size();
        restart(n);
        return before;
    }

    int withdraw(int c, boolean is) {
        if (!candidate(c)) return UNKNOWN;
        return withdrawn.set(c, is) == is ? 0 : 1;
    }

    int lot(int c, int lot) {
        if (!candidate(c)) return UNKNOWN;
        if (!candidate(lot)) return OUTSIDE;
        int other = lots.indexOf(lot);
        int before = lots.get(c);
        lots.set(other, before);
        lots.set(c, lot);
        return before;
    }

    int pile(long preferences, int papers) {
        String digits = new StringBuilder(Long.toHexString(preferences)).reverse().toString();
        digits = digits.replaceAll("0+$", "");
        Pile pile = new Pile();
        for (char digit : digits.toCharArray()) {
            int c = Character.digit(digit, 16) - 1;
            if (!candidate(c) || pile.preferences.contains(c)) return OUTSIDE;
            pile.preferences.add(c);
        }
        if (pile.preferences.isEmpty() || papers < 1 || papers > 500) return OUTSIDE;
        if (piles.size() == 80) return FULL;
        pile.papers = papers;
        piles.add(pile);
        return piles.size() - 1;
    }

    int change(int p, int papers) {
        if (!isPile(p)) return UNKNOWN;
        if (papers < 1 || papers > 500) return OUTSIDE;
        int before = piles.get(p).papers;
        piles.get(p).papers = papers;
        return before;
    }

    private boolean valid(Pile pile) {
        return pile.preferences.stream().anyMatch(c -> !withdrawn.get(c));
    }

    int about(int p, int what) {
        if (!isPile(p)) return UNKNOWN;
        Pile pile = piles.get(p);
        if (what == 0) return pile.papers;
        if (what == 1) return pile.preferences.size();
        if (what == 2) return valid(pile) ? 1 : 0;
        if (what < 10 || what > 21) return OUTSIDE;
        return what - 10 < pile.preferences.size() ? pile.preferences.get(what - 10) : NONE;
    }

    int count(int rule, int seats) {
        if (rule < 0 || rule > 3 || seats < 1 || seats > 12) return OUTSIDE;
        if (!withdrawn.contains(false)) return STATE;
        Count count = new Count();
        count.rule = rule;
        count.seats = seats;
        count.candidates = withdrawn.size();
        count.piles = piles.size();
        latest = count;
        if (rule == 3) byKeeps(count);
        else byPapers(count);
        sheet = new HashMap<>();
        for (int i = 0; i < count.stages.size(); i++) {
            for (Map.Entry<Integer, Long> e : count.stages.get(i).votes.entrySet()) {
                sheet.put(List.of(i, e.getKey()), e.getValue());
            }
        }
        return count.stages.size();
    }

    private Stage firstStage(int kind) {
        Stage stage = new Stage();
        stage.kind = kind;
        for (int c = 0; c < withdrawn.size(); c++) {
            stage.votes.put(c, 0L);
            stage.status.put(c, withdrawn.get(c) ? "withdrawn" : "hopeful");
            stage.keeps.put(c, 1000000);
        }
        return stage;
    }

    private Stage after(Stage ahead, int kind, int who) {
        Stage stage = new Stage();
        stage.kind = kind;
        stage.who = who;
        stage.notTransferable = ahead.notTransferable;
        stage.lost = ahead.lost;
        stage.quota = ahead.quota;
        stage.votes.putAll(ahead.votes);
        stage.status.putAll(ahead.status);
        stage.keeps.putAll(ahead.keeps);
        stage.holder.putAll(ahead.holder);
        stage.value.putAll(ahead.value);
        return stage;
    }

    /** The one with more comes first. */
    private Comparator<Integer> byVotes(Count count) {
        return (a, b) -> {
            int from = count.stages.size() - 1;
            int to = count.rule == 3 ? from : 0;
            for (int i = from; i >= to; i--) {
                int order = count.stages.get(i).votes.get(b).compareTo(count.stages.get(i).votes.get(a));
                if (order != 0) return order;
            }
            return lots.get(a) - lots.get(b);
        };
    }

    private List<Integer> allThatAre(Count count, String status) {
        Stage stage = last(count);
        List<Integer> all = new ArrayList<>();
        for (int c = 0; c < count.candidates; c++) {
            if (stage.status.get(c).equals(status)) all.add(c);
        }
        all.sort(byVotes(count));
        return all;
    }

    private static Stage last(Count count) {
        return count.stages.get(count.stages.size() - 1);
    }

    /** Elects behind the last STAGE, which is in the list already; whether it ends. */
    private boolean electBehind(Count count) {
        Stage stage = last(count);
        for (int c : allThatAre(count, "hopeful")) {
            if (stage.votes.get(c) >= stage.quota) {
                stage.status.put(c, "elected");
                count.elected.add(c);
            }
        }
        List<Integer> hopeful = allThatAre(count, "hopeful");
        if (hopeful.size() + count.elected.size() <= count.seats) {
            for (int c : hopeful) {
                stage.status.put(c, "elected");
                count.elected.add(c);
            }
        }
        stage.elected = count.elected.size();
        return allThatAre(count, "hopeful").isEmpty() || count.elected.size() >= count.seats;
    }

    private static int next(Pile pile, Stage stage) {
        for (int c : pile.preferences) {
            if (stage.status.get(c).equals("hopeful")) return c;
        }
        return NONE;
    }

    private static long cut(long a, long b, long by) {
        return BigInteger.valueOf(a).multiply(BigInteger.valueOf(b)).divide(BigInteger.valueOf(by)).longValueExact();
    }

    private void byPapers(Count count) {
        Map<Integer, Integer> cameAt = new HashMap<>();
        Stage stage = firstStage(0);
        long papers = piles.stream().filter(this::valid).mapToLong(p -> p.papers).sum();
        stage.quota = (papers / (count.seats + 1) + 1) * 100000;
        for (int p = 0; p < piles.size(); p++) {
            if (valid(piles.get(p))) {
                int to = next(piles.get(p), stage);
                stage.holder.put(p, to);
                stage.value.put(p, 100000L);
                stage.votes.merge(to, 100000L * piles.get(p).papers, Long::sum);
                cameAt.put(p, 0);
            }
        }
        count.stages.add(stage);
        while (!electBehind(count)) {
            Stage ahead = last(count);
            List<Integer> elected = allThatAre(count, "elected");
            List<Integer> hopeful = allThatAre(count, "hopeful");
            if (!elected.isEmpty() && ahead.votes.get(elected.get(0)) > ahead.quota) {
                stage = after(ahead, 1, elected.get(0));
                surplus(count, stage, cameAt);
            } else {
                stage = after(ahead, 2, hopeful.get(hopeful.size() - 1));
                out(count, stage, cameAt);
            }
            count.stages.add(stage);
        }
    }

    private void out(Count count, Stage stage, Map<Integer, Integer> cameAt) {
        stage.status.put(stage.who, "out");
        Map<Integer, Long> moves = new LinkedHashMap<>();
        for (int p : pilesOf(stage)) moves.put(p, stage.value.get(p));
        stage.votes.put(stage.who, 0L);
        move(count, stage, moves, cameAt);
    }

    private static List<Integer> pilesOf(Stage stage) {
        List<Integer> all = new ArrayList<>();
        stage.holder.forEach((p, c) -> {
            if (c == stage.who) all.add(p);
        });
        return all;
    }

    private void surplus(Count count, Stage stage, Map<Integer, Integer> cameAt) {
        long had = stage.votes.get(stage.who);
        long surplus = had - stage.quota;
        List<Integer> mine = pilesOf(stage);
        Map<Integer, Long> moves = new LinkedHashMap<>();
        long extra = 0;
        if (count.rule == 0) {
            for (int p : mine) moves.put(p, cut(stage.value.get(p), surplus, had));
        } else if (count.rule == 1) {
            long papers = mine.stream().mapToLong(p -> piles.get(p).papers).sum();
            for (int p : mine) moves.put(p, surplus / papers);
        } else {
            int latestStage = mine.stream().mapToInt(cameAt::get).max().getAsInt();
            List<Integer> going = new ArrayList<>();
            for (int p : mine) {
                if (cameAt.get(p) == latestStage && next(piles.get(p), stage) != NONE) going.add(p);
            }
            long t = going.stream().mapToLong(p -> piles.get(p).papers).sum();
            long w = going.stream().mapToLong(p -> piles.get(p).papers * stage.value.get(p)).sum();
            for (int p : going) moves.put(p, w > surplus ? surplus / t : stage.value.get(p));
            if (w <= surplus) extra = surplus - w;
        }
        stage.votes.put(stage.who, stage.quota);
        long gone = move(count, stage, moves, cameAt);
        stage.notTransferable += extra;
        stage.lost += surplus - gone - extra;
    }

    /** Moves PILES, each with its new value: the units that went to NEXT ones or are NOT TRANSFERABLE. */
    private long move(Count count, Stage stage, Map<Integer, Long> moves, Map<Integer, Integer> cameAt) {
        long gone = 0;
        for (Map.Entry<Integer, Long> e : moves.entrySet()) {
            int p = e.getKey();
            long units = e.getValue() * piles.get(p).papers;
            int to = next(piles.get(p), stage);
            gone += units;
            if (to == NONE) {
                stage.holder.remove(p);
                stage.value.remove(p);
                stage.notTransferable += units;
            } else {
                stage.holder.put(p, to);
                stage.value.put(p, e.getValue());
                stage.votes.merge(to, units, Long::sum);
                cameAt.put(p, count.stages.size());
            }
        }
        return gone;
    }

    private void byKeeps(Count count) {
        Map<Integer, Integer> keeps = new HashMap<>();
        for (int c = 0; c < count.candidates; c++) keeps.put(c, 1000000);
        for (int i = 0; ; i++) {
            Stage stage = firstStage(3);
            if (i > 0) stage.status.putAll(last(count).status);
            stage.keeps.putAll(keeps);
            for (Pile pile : piles) {
                if (!valid(pile)) continue;
                long rest = 1000000;
                for (int c : pile.preferences) {
                    if (withdrawn.get(c)) continue;
                    long gets = cut(rest, keeps.get(c), 1000000);
                    stage.votes.merge(c, gets * pile.papers, Long::sum);
                    rest -= gets;
                }
                stage.notTransferable += rest * pile.papers;
            }
            long all = stage.votes.values().stream().mapToLong(v -> v).sum();
            stage.quota = all / (count.seats + 1) + 1;
            int electedAhead = count.elected.size();
            count.stages.add(stage);
            if (electBehind(count)) return;
            boolean noneElected = count.elected.size() == electedAhead;
            for (int c : allThatAre(count, "elected")) {
                if (stage.votes.get(c) > stage.quota) stage.excess += stage.votes.get(c) - stage.quota;
            }
            boolean standsStill = false;
            if (i > 0) {
                Stage ahead = count.stages.get(i - 1);
                standsStill = ahead.kind == 3 && stage.excess >= ahead.excess;
            }
            if (i >= 60 || noneElected && (stage.excess < 1000 || standsStill)) {
                List<Integer> hopeful = allThatAre(count, "hopeful");
                int out = hopeful.get(hopeful.size() - 1);
                stage.kind = 4;
                stage.who = out;
                stage.status.put(out, "out");
                keeps.put(out, 0);
            } else {
                for (int c : allThatAre(count, "elected")) {
                    long v = stage.votes.get(c);
                    long keep = v == 0 ? 1000000 : cut(keeps.get(c), stage.quota, v) + 1;
                    keeps.put(c, (int) Math.min(1000000, keep));
                }
            }
        }
    }

    private Stage at(int i) {
        return latest == null || i < 0 || i >= latest.stages.size() ? null : latest.stages.get(i);
    }

    private boolean known(int i, int c) {
        return at(i) != null && c >= 0 && c < latest.candidates;
    }

    long stage(int i, int what) {
        Stage stage = at(i);
        if (stage == null) return UNKNOWN;
        if (what < 0 || what > 6) return OUTSIDE;
        long[] all = {stage.kind, stage.who, stage.notTransferable, stage.lost, stage.elected, stage.quota, stage.excess};
        return all[what];
    }

    long votes(int i, int c) {
        return known(i, c) ? at(i).votes.get(c) : UNKNOWN;
    }

    int status(int i, int c) {
        return known(i, c) ? List.of("hopeful", "elected", "out", "withdrawn").indexOf(at(i).status.get(c)) : UNKNOWN;
    }

    int elected(int k) {
        return latest == null || k < 0 || k >= latest.elected.size() ? NONE : latest.elected.get(k);
    }

    int keep(int i, int c) {
        if (!known(i, c)) return UNKNOWN;
        if (latest.rule != 3 || at(i).status.get(c).equals("withdrawn")) return STATE;
        return at(i).keeps.get(c);
    }

    int lies(int i, int p, int what) {
        Stage stage = at(i);
        if (stage == null) return UNKNOWN;
        if (latest.rule != 3 && (p < 0 || p >= latest.piles)) return UNKNOWN;
        if (what != 0 && what != 1) return OUTSIDE;
        if (latest.rule == 3) return STATE;
        if (what == 0) return stage.holder.getOrDefault(p, NONE);
        return (int) (long) stage.value.getOrDefault(p, 0L);
    }

    long sheet(int i, int c) {
        return known(i, c) ? sheet.get(List.of(i, c)) : UNKNOWN;
    }

    long forge(int i, int c, long v) {
        return known(i, c) ? sheet.put(List.of(i, c), v) : UNKNOWN;
    }

    int check() {
        if (latest == null) return STATE;
        for (int i = 0; i < latest.stages.size(); i++) {
            for (Map.Entry<Integer, Long> e : latest.stages.get(i).votes.entrySet()) {
                if (!sheet.get(List.of(i, e.getKey())).equals(e.getValue())) return -20 - i;
            }
        }
        return 1;
    }

    private static boolean prefers(Pile pile, int a, int b) {
        int atA = pile.preferences.indexOf(a);
        int atB = pile.preferences.indexOf(b);
        return atA >= 0 && (atB < 0 || atA < atB);
    }

    private int papersFor(int a, int b) {
        return piles.stream().filter(p -> prefers(p, a, b)).mapToInt(p -> p.papers).sum();
    }

    int prefer(int a, int b) {
        if (!candidate(a) || !candidate(b)) return UNKNOWN;
        return a == b ? STATE : papersFor(a, b);
    }

    private boolean beats(int a, int b) {
        return a != b && papersFor(a, b) > papersFor(b, a);
    }

    int winner() {
        for (int a = 0; a < withdrawn.size(); a++) {
            if (withdrawn.get(a)) continue;
            boolean all = true;
            for (int b = 0; b < withdrawn.size(); b++) {
                if (b != a && !withdrawn.get(b) && !beats(a, b)) all = false;
            }
            if (all) return a;
        }
        return NONE;
    }

    int leads(int c) {
        if (!candidate(c)) return UNKNOWN;
        if (withdrawn.get(c)) return 0;
        int n = withdrawn.size();
        boolean[][] to = new boolean[n][n];
        for (int a = 0; a < n; a++) {
            for (int b = 0; b < n; b++) to[a][b] = !withdrawn.get(a) && !withdrawn.get(b) && beats(a, b);
        }
        for (int via = 0; via < n; via++) {
            for (int a = 0; a < n; a++) {
                for (int b = 0; b < n; b++) to[a][b] |= to[a][via] && to[via][b];
            }
        }
        int led = 0;
        for (int b = 0; b < n; b++) led += to[c][b] ? 1 : 0;
        return led;
    }

    int points(int c) {
        if (!candidate(c)) return UNKNOWN;
        int sum = 0;
        for (Pile pile : piles) {
            int behind = 0;
            for (int b = 0; b < withdrawn.size(); b++) {
                if (!withdrawn.get(b) && prefers(pile, c, b)) behind++;
            }
            sum += behind * pile.papers;
        }
        return sum;
    }

    int told(int what) {
        switch (what) {
            case 0: return withdrawn.size();
            case 1: return piles.size();
            case 2: return piles.stream().filter(this::valid).mapToInt(p -> p.papers).sum();
            case 3: return latest == null ? 0 : latest.stages.size();
            case 4: return latest == null ? 0 : latest.elected.size();
            case 5: return latest == null ? NONE : latest.rule;
            case 6: return (int) withdrawn.stream().filter(w -> w).count();
            default: return OUTSIDE;
        }
    }
}
