import java.util.Random;

/** Random runs of calls, each answer held against PlainModel's; the seeds are fixed, so it is always the same. */
public final class RandomRunsTest {
    private static final int RUNS = 1200;
    private static final int MIRRORED_RUNS = 600;
    private static final int MIRRORED_CANDIDATES = 5;
    private static final int[] ODD = {Integer.MIN_VALUE, -10, -1, 0, 1, 2, 11, 12, 13, 79, 80, 500, 501, Integer.MAX_VALUE};

    private final Random random;
    private final SeatCounts x = new SeatCounts();
    private final PlainModel model = new PlainModel();
    private final StringBuilder story = new StringBuilder();
    private int calls;
    private int n = 3;
    private boolean failed;

    private RandomRunsTest(long seed) {
        random = new Random(seed);
    }

    public static void main(String[] args) {
        long calls = 0;
        int[] byKind = new int[5];
        int longest = 0;
        int moreThanSeats = 0;
        for (int seed = 1; seed <= RUNS + MIRRORED_RUNS; seed++) {
            RandomRunsTest run = new RandomRunsTest(seed);
            if (seed <= RUNS) {
                run.go();
            } else {
                moreThanSeats += run.goMirrored();
            }
            calls += run.calls;
            for (int i = 0; i < run.x.told(3); i++) {
                byKind[(int) run.x.stage(i, 0)]++;
            }
            longest = Math.max(longest, run.x.told(3));
            if (run.failed) {
                System.out.println("seed " + seed + ":" + run.story);
                System.exit(1);
            }
        }
        System.out.println("RandomRunsTest: " + calls + " calls as the model's; last counts' stages by kind "
                + java.util.Arrays.toString(byKind) + ", longest count " + longest
                + ", with more ELECTED than seats " + moreThanSeats);
    }

    private void same(String call, long got, long want) {
        calls++;
        story.append("\n  ").append(call).append(" = ").append(got);
        if (got != want) {
            story.append(", model ").append(want);
            failed = true;
        }
    }

    private int below(int bound) {
        return random.nextInt(bound);
    }

    /** Mostly a number below the bound, now and then an odd one. */
    private int about(int bound) {
        return below(12) == 0 ? ODD[below(ODD.length)] : below(Math.max(1, bound));
    }

    private void go() {
        setUp();
        while (calls < 480 && !failed) {
            int kind = below(10);
            if (kind == 0) {
                changeHouse();
            } else if (kind == 1) {
                askPairs();
            } else if (kind < 4) {
                count();
                lookAtAll();
            } else {
                ask();
            }
        }
    }

    /**
     * For each PILE there is one with two CANDIDATES in each other's places, so that these reach QUOTA in one
     * ROUND: in how many counts that made more ELECTED than there are seats.
     */
    private int goMirrored() {
        int found = 0;
        while (calls < 480 && !failed) {
            n = MIRRORED_CANDIDATES;
            same("candidates(" + n + ")", x.candidates(n), model.candidates(n));
            for (int k = 1 + below(3); k > 0; k--) {
                addMirroredPiles(1 + below(500));
            }
            int seats = 2 + below(2);
            same("count(3, " + seats + ")", x.count(3, seats), model.count(3, seats));
            found += x.told(4) > seats ? 1 : 0;
            lookAtAll();
        }
        return found;
    }

    private void addMirroredPiles(int papers) {
        int[] all = new int[n];
        for (int k = 0; k < n; k++) {
            int to = below(k + 1);
            all[k] = all[to];
            all[to] = k + 1;
        }
        long preferences = 0;
        long mirror = 0;
        for (int c : all) {
            preferences = preferences << 4 | c;
            mirror = mirror << 4 | (c == n ? n - 1 : c == n - 1 ? n : c);
        }
        same("pile(" + preferences + ", " + papers + ")", x.pile(preferences, papers), model.pile(preferences, papers));
        same("pile(" + mirror + ", " + papers + ")", x.pile(mirror, papers), model.pile(mirror, papers));
    }

    private void setUp() {
        n = below(3) == 0 ? 12 : 1 + below(12);
        same("candidates(" + n + ")", x.candidates(n), model.candidates(n));
        int piles = below(5) == 0 ? 82 : below(30);
        int most = new int[] {1, 3, 20, 500}[below(4)];
        for (int k = 0; k < piles; k++) {
            addPile(1 + below(most));
        }
        for (int k = below(4); k > 0; k--) {
            int c = about(n);
            int lot = about(n);
            same("lot(" + c + ", " + lot + ")", x.lot(c, lot), model.lot(c, lot));
        }
        if (below(3) == 0) {
            for (int k = below(n + 1); k > 0; k--) {
                withdraw();
            }
        }
    }

    private void addPile(int papers) {
        long preferences = 0;
        int length = 1 + below(n);
        int seen = 0;
        for (int k = 0; k < length; k++) {
            int c = below(3) == 0 ? below(n) : below(1 + n / 3);
            if ((seen >> c & 1) == 0 || below(60) == 0) {
                preferences |= (long) (c + 1) << 4 * Integer.bitCount(seen);
                seen |= 1 << c;
            }
        }
        if (below(80) == 0) {
            preferences ^= random.nextLong() & (15L << 4 * below(16));
        }
        same("pile(" + preferences + ", " + papers + ")", x.pile(preferences, papers), model.pile(preferences, papers));
    }

    private void withdraw() {
        int c = about(n);
        boolean is = below(4) > 0;
        same("withdraw(" + c + ", " + is + ")", x.withdraw(c, is), model.withdraw(c, is));
    }

    private void changeHouse() {
        int kind = below(40);
        if (kind == 0) {
            int to = about(14);
            int got = x.candidates(to);
            same("candidates(" + to + ")", got, model.candidates(to));
            n = got < 0 ? n : to;
        } else if (kind < 10) {
            withdraw();
        } else if (kind < 20) {
            int p = about(30);
            int papers = about(502);
            same("change(" + p + ", " + papers + ")", x.change(p, papers), model.change(p, papers));
        } else if (kind < 30) {
            int c = about(n);
            int lot = about(n);
            same("lot(" + c + ", " + lot + ")", x.lot(c, lot), model.lot(c, lot));
        } else {
            addPile(about(40));
        }
    }

    private void count() {
        int rule = below(20) == 0 ? ODD[below(ODD.length)] : below(4);
        int seats = below(20) == 0 ? ODD[below(ODD.length)] : 1 + below(Math.min(12, 1 + n / 2));
        same("count(" + rule + ", " + seats + ")", x.count(rule, seats), model.count(rule, seats));
    }

    /** Not through same, since so many calls would fill the run: the state is what is looked at. */
    private void lookAtAll() {
        long bad = 0;
        for (int i = 0; i < x.told(3); i++) {
            for (int what = 0; what < 7; what++) {
                bad += x.stage(i, what) == model.stage(i, what) ? 0 : 1;
            }
            for (int c = 0; c < 12; c++) {
                bad += x.votes(i, c) == model.votes(i, c) ? 0 : 1;
                bad += x.status(i, c) == model.status(i, c) ? 0 : 1;
                bad += x.keep(i, c) == model.keep(i, c) ? 0 : 1;
                bad += x.sheet(i, c) == model.sheet(i, c) ? 0 : 1;
            }
            for (int p = 0; p < 81; p++) {
                bad += x.lies(i, p, 0) == model.lies(i, p, 0) ? 0 : 1;
                bad += x.lies(i, p, 1) == model.lies(i, p, 1) ? 0 : 1;
            }
        }
        for (int k = -1; k < 13; k++) {
            bad += x.elected(k) == model.elected(k) ? 0 : 1;
        }
        same("all of the count", bad, 0);
    }

    private void askPairs() {
        int a = about(n);
        int b = about(n);
        same("prefer(" + a + ", " + b + ")", x.prefer(a, b), model.prefer(a, b));
        same("winner()", x.winner(), model.winner());
        same("leads(" + a + ")", x.leads(a), model.leads(a));
        same("points(" + a + ")", x.points(a), model.points(a));
    }

    private void ask() {
        int i = about(x.told(3) + 1);
        int c = about(n);
        int p = about(x.told(1) + 1);
        int what = about(8);
        switch (below(10)) {
            case 0: same("stage(" + i + ", " + what + ")", x.stage(i, what), model.stage(i, what)); break;
            case 1: same("votes(" + i + ", " + c + ")", x.votes(i, c), model.votes(i, c)); break;
            case 2: same("status(" + i + ", " + c + ")", x.status(i, c), model.status(i, c)); break;
            case 3: same("keep(" + i + ", " + c + ")", x.keep(i, c), model.keep(i, c)); break;
            case 4:
                what = about(2);
                same("lies(" + i + ", " + p + ", " + what + ")", x.lies(i, p, what), model.lies(i, p, what));
                break;
            case 5: same("sheet(" + i + ", " + c + ")", x.sheet(i, c), model.sheet(i, c)); break;
            case 6:
                long v = below(2) == 0 ? x.votes(i, c) : random.nextLong();
                same("forge(" + i + ", " + c + ", " + v + ")", x.forge(i, c, v), model.forge(i, c, v));
                break;
            case 7: same("check()", x.check(), model.check()); break;
            case 8:
                what = about(24);
                same("about(" + p + ", " + what + ")", x.about(p, what), model.about(p, what));
                break;
            default: same("told(" + what + ")", x.told(what), model.told(what)); break;
        }
    }
}
