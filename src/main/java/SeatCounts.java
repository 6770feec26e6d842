/**
 * A house of counts: ballots with preferences, in piles, counted for several seats by four rules,
 * stage by stage. The document's numbered promises say what each call answers.
 */
public final class SeatCounts {
    public static final int UNKNOWN = -1, OUTSIDE = -2, STATE = -3, FULL = -4, NONE = -9;

    private static final int MOST_CANDIDATES = 12;
    private static final int CANDIDATES_AT_FIRST = 3;
    private static final int MOST_SEATS = 12;
    private static final int MOST_PILES = 80;
    private static final int MOST_PAPERS = 500;

    /** The rank of one that a PILE does not prefer at all: behind all that it does. */
    private static final int NOT_PREFERRED = MOST_CANDIDATES;

    /** A long has 16 digits to the base 16; all are read, so that none hides behind a 0. */
    private static final int DIGITS = 16;

    private static final int BY_OWN_VALUE = 0, LAST_PARCELS = 2, BY_KEEPS = 3;

    private static final long PAPER_UNITS = 100000;
    private static final int WHOLE_KEEP = 1000000;

    private static final int HOPEFUL = 0, ELECTED = 1, OUT = 2, WITHDRAWN = 3;

    private static final int FIRST_STAGE = 0, SURPLUS_STAGE = 1, OUT_STAGE = 2;
    private static final int ROUND_STAGE = 3, ROUND_OUT_STAGE = 4;

    /** By RULES 0 to 2 each STAGE behind the first one uses up a CANDIDATE. */
    private static final int MOST_PAPER_STAGES = 1 + MOST_CANDIDATES;

    /** By RULE 3 every STAGE from this one on puts somebody OUT, or is the last. */
    private static final int FORCED_STAGE = 60;
    private static final int MOST_STAGES = FORCED_STAGE + MOST_CANDIDATES;

    private static final long SMALL_EXCESS = 1000;

    private static final int PREFERENCE_ASKED = 10;
    private static final int SHEET_BROKEN = -20;

    private final House house = new House();
    private final Journal journal = new Journal();
    private final PaperRules paperRules = new PaperRules();

    /** THE SHEET; the journal's votes stay beside it, so that a forged number can be told. */
    private final long[] numbers = new long[MOST_STAGES * MOST_CANDIDATES];

    public SeatCounts() {
    }

    // ---- 1 candidates, piles

    public int candidates(int n) {
        if (n < 1 || n > MOST_CANDIDATES) {
            return OUTSIDE;
        }
        int before = house.candidates;
        house.open(n);
        return before;
    }

    public int withdraw(int c, boolean is) {
        if (!house.hasCandidate(c)) {
            return UNKNOWN;
        }
        if (house.withdrawn[c] == is) {
            return 0;
        }
        house.withdrawn[c] = is;
        return 1;
    }

    public int lot(int c, int lot) {
        if (!house.hasCandidate(c)) {
            return UNKNOWN;
        }
        if (lot < 0 || lot >= house.candidates) {
            return OUTSIDE;
        }
        return house.swapLots(c, lot);
    }

    public int pile(long preferences, int papers) {
        int length = house.preferencesTold(preferences);
        if (length == 0 || !isPapers(papers)) {
            return OUTSIDE;
        }
        if (house.piles >= MOST_PILES) {
            return FULL;
        }
        return house.addPile(preferences, length, papers);
    }

    public int change(int pile, int papers) {
        if (!house.hasPile(pile)) {
            return UNKNOWN;
        }
        if (!isPapers(papers)) {
            return OUTSIDE;
        }
        int before = house.papers[pile];
        house.papers[pile] = papers;
        return before;
    }

    public int about(int pile, int what) {
        if (!house.hasPile(pile)) {
            return UNKNOWN;
        }
        if (what >= PREFERENCE_ASKED && what < PREFERENCE_ASKED + MOST_CANDIDATES) {
            return house.preferenceAt(pile, what - PREFERENCE_ASKED);
        }
        switch (what) {
            case 0:
                return house.papers[pile];
            case 1:
                return house.lengths[pile];
            case 2:
                return house.isValid(pile) ? 1 : 0;
            default:
                return OUTSIDE;
        }
    }

    // ---- 2 counts

    public int count(int rule, int seats) {
        if (rule < 0 || rule > BY_KEEPS || seats < 1 || seats > MOST_SEATS) {
            return OUTSIDE;
        }
        if (house.withdrawnOnes() == house.candidates) {
            return STATE;
        }
        journal.begin(house, rule, seats);
        if (rule == BY_KEEPS) {
            KeepRule.run(house, journal);
        } else {
            paperRules.run(house, journal);
        }
        System.arraycopy(journal.votes, 0, numbers, 0, numbers.length);
        return journal.stages;
    }

    public long stage(int i, int what) {
        if (!journal.hasStage(i)) {
            return UNKNOWN;
        }
        switch (what) {
            case 0:
                return journal.kinds[i];
            case 1:
                return journal.whose[i];
            case 2:
                return journal.untransferable[i];
            case 3:
                return journal.lost[i];
            case 4:
                return journal.electedBehind[i];
            case 5:
                return journal.quotas[i];
            case 6:
                return journal.excesses[i];
            default:
                return OUTSIDE;
        }
    }

    public long votes(int i, int c) {
        return journal.hasCell(i, c) ? journal.votes[cell(i, c)] : UNKNOWN;
    }

    public int status(int i, int c) {
        return journal.hasCell(i, c) ? journal.states[cell(i, c)] : UNKNOWN;
    }

    public int elected(int k) {
        return k >= 0 && k < journal.electedOnes ? journal.order[k] : NONE;
    }

    public int keep(int i, int c) {
        if (!journal.hasCell(i, c)) {
            return UNKNOWN;
        }
        if (journal.rule != BY_KEEPS || journal.states[cell(i, c)] == WITHDRAWN) {
            return STATE;
        }
        return journal.keeps[cell(i, c)];
    }

    public int lies(int i, int pile, int what) {
        if (!journal.hasStage(i)) {
            return UNKNOWN;
        }
        boolean byKeeps = journal.rule == BY_KEEPS;
        if (!byKeeps && !paperRules.hasPlace(i, pile)) {
            return UNKNOWN;
        }
        if (what != 0 && what != 1) {
            return OUTSIDE;
        }
        if (byKeeps) {
            return STATE;
        }
        return what == 0 ? paperRules.holders[place(i, pile)] : paperRules.values[place(i, pile)];
    }

    // ---- 3 sheets

    public long sheet(int i, int c) {
        return journal.hasCell(i, c) ? numbers[cell(i, c)] : UNKNOWN;
    }

    public long forge(int i, int c, long v) {
        if (!journal.hasCell(i, c)) {
            return UNKNOWN;
        }
        long before = numbers[cell(i, c)];
        numbers[cell(i, c)] = v;
        return before;
    }

    public int check() {
        if (journal.stages == 0) {
            return STATE;
        }
        for (int i = 0; i < journal.stages; i++) {
            for (int c = 0; c < journal.candidates; c++) {
                if (numbers[cell(i, c)] != journal.votes[cell(i, c)]) {
                    return SHEET_BROKEN - i;
                }
            }
        }
        return 1;
    }

    // ---- 4 two by two

    public int prefer(int a, int b) {
        if (!house.hasCandidate(a) || !house.hasCandidate(b)) {
            return UNKNOWN;
        }
        return a == b ? STATE : house.papersFor(a, b);
    }

    public int winner() {
        int standing = house.candidates - house.withdrawnOnes();
        for (int c = 0; c < house.candidates; c++) {
            if (!house.withdrawn[c] && Integer.bitCount(house.beatenBy(c)) == standing - 1) {
                return c;
            }
        }
        return NONE;
    }

    public int leads(int c) {
        return house.hasCandidate(c) ? Integer.bitCount(house.ledBy(c)) : UNKNOWN;
    }

    public int points(int c) {
        return house.hasCandidate(c) ? house.pointsOf(c) : UNKNOWN;
    }

    public int told(int what) {
        switch (what) {
            case 0:
                return house.candidates;
            case 1:
                return house.piles;
            case 2:
                return house.validPapers();
            case 3:
                return journal.stages;
            case 4:
                return journal.electedOnes;
            case 5:
                return journal.rule;
            case 6:
                return house.withdrawnOnes();
            default:
                return OUTSIDE;
        }
    }

    private static boolean isPapers(int papers) {
        return papers >= 1 && papers <= MOST_PAPERS;
    }

    /** Where a CANDIDATE's number stands in the rows that have one for each STAGE and CANDIDATE. */
    private static int cell(int stage, int c) {
        return stage * MOST_CANDIDATES + c;
    }

    /** Where a PILE's number stands in the rows that have one for each STAGE and PILE. */
    private static int place(int stage, int pile) {
        return stage * MOST_PILES + pile;
    }

    /** The CANDIDATES and PILES as they are now. */
    private static final class House {
        int candidates;
        int piles;
        final boolean[] withdrawn = new boolean[MOST_CANDIDATES];
        final int[] lots = new int[MOST_CANDIDATES];
        final int[] papers = new int[MOST_PILES];
        final int[] lengths = new int[MOST_PILES];
        final int[] preferences = new int[MOST_PILES * MOST_CANDIDATES];

        /** Which preference a CANDIDATE is in a PILE, so that comparing two needs no search. */
        final int[] ranks = new int[MOST_PILES * MOST_CANDIDATES];

        House() {
            open(CANDIDATES_AT_FIRST);
        }

        void open(int n) {
            candidates = n;
            piles = 0;
            for (int c = 0; c < MOST_CANDIDATES; c++) {
                withdrawn[c] = false;
                lots[c] = c;
            }
        }

        boolean hasCandidate(int c) {
            return c >= 0 && c < candidates;
        }

        boolean hasPile(int pile) {
            return pile >= 0 && pile < piles;
        }

        int withdrawnOnes() {
            int ones = 0;
            for (int c = 0; c < candidates; c++) {
                if (withdrawn[c]) {
                    ones++;
                }
            }
            return ones;
        }

        /** Gives c the lot, and c's one to whom that belonged: the lot that c had. */
        int swapLots(int c, int lot) {
            int before = lots[c];
            for (int other = 0; other < candidates; other++) {
                if (lots[other] == lot) {
                    lots[other] = before;
                }
            }
            lots[c] = lot;
            return before;
        }

        /** How many preferences the digits tell; 0, if they are not as they must be. */
        int preferencesTold(long digits) {
            int length = 0;
            int seen = 0;
            for (int k = 0; k < DIGITS; k++) {
                int digit = digitOf(digits, k);
                if (digit == 0) {
                    continue;
                }
                boolean behindZero = length < k;
                if (behindZero || digit > candidates || (seen & (1 << digit)) != 0) {
                    return 0;
                }
                seen |= 1 << digit;
                length++;
            }
            return length;
        }

        /** Takes digits that preferencesTold has found good. */
        int addPile(long digits, int length, int howMany) {
            int pile = piles;
            int row = pile * MOST_CANDIDATES;
            for (int c = 0; c < MOST_CANDIDATES; c++) {
                ranks[row + c] = NOT_PREFERRED;
            }
            for (int k = 0; k < length; k++) {
                int c = digitOf(digits, k) - 1;
                preferences[row + k] = c;
                ranks[row + c] = k;
            }
            lengths[pile] = length;
            papers[pile] = howMany;
            piles++;
            return pile;
        }

        int preferenceAt(int pile, int k) {
            return k < lengths[pile] ? preferences[pile * MOST_CANDIDATES + k] : NONE;
        }

        boolean isValid(int pile) {
            for (int k = 0; k < lengths[pile]; k++) {
                if (!withdrawn[preferences[pile * MOST_CANDIDATES + k]]) {
                    return true;
                }
            }
            return false;
        }

        int validPapers() {
            int sum = 0;
            for (int pile = 0; pile < piles; pile++) {
                if (isValid(pile)) {
                    sum += papers[pile];
                }
            }
            return sum;
        }

        int papersFor(int a, int b) {
            int sum = 0;
            for (int pile = 0; pile < piles; pile++) {
                int row = pile * MOST_CANDIDATES;
                if (ranks[row + a] < ranks[row + b]) {
                    sum += papers[pile];
                }
            }
            return sum;
        }

        /** A bit for each one, not withdrawn, to whom c is preferred by more papers than back. */
        int beatenBy(int c) {
            int beaten = 0;
            for (int other = 0; other < candidates; other++) {
                if (other != c && !withdrawn[other] && papersFor(c, other) > papersFor(other, c)) {
                    beaten |= 1 << other;
                }
            }
            return beaten;
        }

        /** A bit for each CANDIDATE to whom c leads. */
        int ledBy(int c) {
            if (withdrawn[c]) {
                return 0;
            }
            int led = beatenBy(c);
            int asked = 1 << c;
            for (int step = 1; step < candidates; step++) {
                int next = firstIn(led & ~asked);
                if (next == NONE) {
                    return led;
                }
                led |= beatenBy(next);
                asked |= 1 << next;
            }
            return led;
        }

        private int firstIn(int bits) {
            for (int c = 0; c < candidates; c++) {
                if ((bits & (1 << c)) != 0) {
                    return c;
                }
            }
            return NONE;
        }

        int pointsOf(int c) {
            int sum = 0;
            for (int other = 0; other < candidates; other++) {
                if (other != c && !withdrawn[other]) {
                    sum += papersFor(c, other);
                }
            }
            return sum;
        }

        private static int digitOf(long digits, int k) {
            return (int) ((digits >>> (4 * k)) & 15);
        }
    }

    /**
     * What the latest COUNT tells of its STAGES. The rows of the STAGE that is being made are what
     * the rules work on, so nothing is copied out in the end. The CANDIDATES may be others by now:
     * how many there were, and their LOTS, are held here.
     */
    private static final class Journal {
        int rule = NONE;
        int seats;
        int candidates;
        int stages;
        /** Where the row of the STAGE that is being made begins. */
        int row;
        int electedOnes;
        final int[] order = new int[MOST_CANDIDATES];
        final int[] lots = new int[MOST_CANDIDATES];

        final int[] kinds = new int[MOST_STAGES];
        final int[] whose = new int[MOST_STAGES];
        final int[] electedBehind = new int[MOST_STAGES];
        final long[] untransferable = new long[MOST_STAGES];
        final long[] lost = new long[MOST_STAGES];
        final long[] quotas = new long[MOST_STAGES];
        final long[] excesses = new long[MOST_STAGES];

        final long[] votes = new long[MOST_STAGES * MOST_CANDIDATES];
        final int[] states = new int[MOST_STAGES * MOST_CANDIDATES];
        final int[] keeps = new int[MOST_STAGES * MOST_CANDIDATES];

        boolean hasStage(int i) {
            return i >= 0 && i < stages;
        }

        boolean hasCell(int i, int c) {
            return hasStage(i) && c >= 0 && c < candidates;
        }

        /** Forgets the COUNT ahead and begins STAGE 0, with nothing given to anybody yet. */
        void begin(House house, int byRule, int forSeats) {
            rule = byRule;
            seats = forSeats;
            candidates = house.candidates;
            electedOnes = 0;
            stages = 1;
            row = 0;
            untransferable[0] = 0;
            lost[0] = 0;
            excesses[0] = 0;
            kinds[0] = byRule == BY_KEEPS ? ROUND_STAGE : FIRST_STAGE;
            whose[0] = NONE;
            for (int c = 0; c < candidates; c++) {
                boolean withdrawn = house.withdrawn[c];
                lots[c] = house.lots[c];
                votes[c] = 0;
                states[c] = withdrawn ? WITHDRAWN : HOPEFUL;
                keeps[c] = withdrawn ? 0 : WHOLE_KEEP;
            }
        }

        /** Begins the next STAGE as a copy of the one ahead; false: there is no room for one. */
        boolean turn(int kind, int who) {
            if (stages >= MOST_STAGES) {
                return false;
            }
            int ahead = now();
            stages++;
            row = cell(now(), 0);
            kinds[now()] = kind;
            whose[now()] = who;
            untransferable[now()] = untransferable[ahead];
            lost[now()] = lost[ahead];
            quotas[now()] = quotas[ahead];
            excesses[now()] = 0;
            System.arraycopy(votes, cell(ahead, 0), votes, row, candidates);
            System.arraycopy(states, cell(ahead, 0), states, row, candidates);
            System.arraycopy(keeps, cell(ahead, 0), keeps, row, candidates);
            return true;
        }

        /** The STAGE that is being made. */
        int now() {
            return stages - 1;
        }

        long quota() {
            return quotas[now()];
        }

        boolean isHopeful(int c) {
            return states[row + c] == HOPEFUL;
        }

        boolean isElected(int c) {
            return states[row + c] == ELECTED;
        }

        /** Elects who is due behind the STAGE: whether the COUNT ends with it. */
        boolean settle() {
            electFrom(quota());
            if (hopefulOnes() + electedOnes <= seats) {
                electFrom(0);
            }
            electedBehind[now()] = electedOnes;
            return hopefulOnes() == 0 || electedOnes >= seats;
        }

        private void electFrom(long fewest) {
            for (int k = electedOnes; k < candidates; k++) {
                int best = most(HOPEFUL, fewest);
                if (best == NONE) {
                    return;
                }
                states[row + best] = ELECTED;
                order[k] = best;
                electedOnes = k + 1;
            }
        }

        private int hopefulOnes() {
            int ones = 0;
            for (int c = 0; c < candidates; c++) {
                if (isHopeful(c)) {
                    ones++;
                }
            }
            return ones;
        }

        /** The ELECTED one whose SURPLUS is next; NONE, if none has more than QUOTA. */
        int richest() {
            return most(ELECTED, quota() + 1);
        }

        /** Of those in a state, with so many votes at least, the one with most; NONE, if there is none. */
        private int most(int state, long fewest) {
            int best = NONE;
            for (int c = 0; c < candidates; c++) {
                boolean fits = states[row + c] == state && votes[row + c] >= fewest;
                if (fits && (best == NONE || hasMore(c, best))) {
                    best = c;
                }
            }
            return best;
        }

        /** The HOPEFUL one that goes OUT next; NONE, if none is HOPEFUL. */
        int poorest() {
            int last = NONE;
            for (int c = 0; c < candidates; c++) {
                if (isHopeful(c) && (last == NONE || hasMore(last, c))) {
                    last = c;
                }
            }
            return last;
        }

        /** Whether a is taken as having more than b; never both ways, since LOTS are unlike. */
        private boolean hasMore(int a, int b) {
            int oldest = rule == BY_KEEPS ? now() : 0;
            for (int i = now(); i >= oldest; i--) {
                long difference = votes[cell(i, a)] - votes[cell(i, b)];
                if (difference != 0) {
                    return difference > 0;
                }
            }
            return lots[a] < lots[b];
        }
    }

    /** The COUNT by RULES 0 to 2, and where each PILE lies behind each of its STAGES. */
    private static final class PaperRules {
        /** How many PILES there were in the latest COUNT by these RULES. */
        private int piles;
        final int[] holders = new int[MOST_PAPER_STAGES * MOST_PILES];
        final int[] values = new int[MOST_PAPER_STAGES * MOST_PILES];

        /** Where the row of the STAGE that is being made begins. */
        private int row;

        /** The STAGE at which each PILE came to where it lies: RULE 2 needs the last parcels. */
        private final int[] came = new int[MOST_PILES];

        boolean hasPlace(int i, int pile) {
            return i >= 0 && i < MOST_PAPER_STAGES && pile >= 0 && pile < piles;
        }

        void run(House house, Journal journal) {
            piles = house.piles;
            row = 0;
            long quotaPapers = house.validPapers() / (journal.seats + 1) + 1;
            journal.quotas[0] = quotaPapers * PAPER_UNITS;
            dealFirst(house, journal);
            for (int i = 1; !journal.settle() && i < MOST_PAPER_STAGES; i++) {
                int rich = journal.richest();
                int who = rich == NONE ? journal.poorest() : rich;
                int kind = rich == NONE ? OUT_STAGE : SURPLUS_STAGE;
                if (who == NONE || !journal.turn(kind, who)) {
                    return;
                }
                copyRow(i);
                if (rich == NONE) {
                    putOut(house, journal, who);
                } else {
                    passSurplus(house, journal, who);
                }
            }
        }

        private void copyRow(int stage) {
            int ahead = row;
            row = place(stage, 0);
            System.arraycopy(holders, ahead, holders, row, piles);
            System.arraycopy(values, ahead, values, row, piles);
        }

        private void dealFirst(House house, Journal journal) {
            for (int pile = 0; pile < piles; pile++) {
                holders[pile] = NONE;
                values[pile] = 0;
                // a PILE that is not VALID has no NEXT one, but is not NOT TRANSFERABLE: it is not counted
                if (house.isValid(pile)) {
                    send(house, journal, pile, PAPER_UNITS);
                }
            }
        }

        private void putOut(House house, Journal journal, int who) {
            journal.states[journal.row + who] = OUT;
            for (int pile = 0; pile < piles; pile++) {
                if (holders[row + pile] == who) {
                    send(house, journal, pile, values[row + pile]);
                }
            }
            journal.votes[journal.row + who] = 0;
        }

        private void passSurplus(House house, Journal journal, int who) {
            long surplus = journal.votes[journal.row + who] - journal.quota();
            long used = journal.rule == LAST_PARCELS
                    ? passLast(house, journal, who, surplus)
                    : passAll(house, journal, who, surplus);
            journal.votes[journal.row + who] = journal.quota();
            journal.lost[journal.now()] += surplus - used;
        }

        /** RULES 0 and 1: how much of the surplus is with NEXT ones or NOT TRANSFERABLE. */
        private long passAll(House house, Journal journal, int who, long surplus) {
            long had = journal.votes[journal.row + who];
            long papers = papersOf(house, who);
            if (had <= 0 || papers <= 0) {
                return 0;
            }
            long used = 0;
            for (int pile = 0; pile < piles; pile++) {
                if (holders[row + pile] == who) {
                    long value = journal.rule == BY_OWN_VALUE
                            ? values[row + pile] * surplus / had
                            : surplus / papers;
                    used += send(house, journal, pile, value);
                }
            }
            return used;
        }

        private long papersOf(House house, int who) {
            long papers = 0;
            for (int pile = 0; pile < piles; pile++) {
                if (holders[row + pile] == who) {
                    papers += house.papers[pile];
                }
            }
            return papers;
        }

        /** RULE 2: how much of the surplus is with NEXT ones or NOT TRANSFERABLE. */
        private long passLast(House house, Journal journal, int who, long surplus) {
            int latest = latestParcel(who);
            long papers = 0;
            long worth = 0;
            for (int pile = 0; pile < piles; pile++) {
                if (passes(house, journal, pile, who, latest)) {
                    papers += house.papers[pile];
                    worth += (long) house.papers[pile] * values[row + pile];
                }
            }
            boolean cuts = worth > surplus && papers > 0;
            long cutValue = cuts ? surplus / papers : 0;
            long sent = 0;
            for (int pile = 0; pile < piles; pile++) {
                if (passes(house, journal, pile, who, latest)) {
                    sent += send(house, journal, pile, cuts ? cutValue : values[row + pile]);
                }
            }
            if (cuts) {
                return sent;
            }
            journal.untransferable[journal.now()] += surplus - worth;
            return surplus;
        }

        /** Of those that lie with somebody now, since a PILE leaves only with that one's own STAGE. */
        private int latestParcel(int who) {
            int latest = 0;
            for (int pile = 0; pile < piles; pile++) {
                if (holders[row + pile] == who) {
                    latest = Math.max(latest, came[pile]);
                }
            }
            return latest;
        }

        /** Whether a PILE is one of those that RULE 2 lets go. */
        private boolean passes(House house, Journal journal, int pile, int who, int latest) {
            return holders[row + pile] == who
                    && came[pile] == latest
                    && nextOf(house, journal, pile) != NONE;
        }

        private int nextOf(House house, Journal journal, int pile) {
            for (int k = 0; k < house.lengths[pile]; k++) {
                int c = house.preferences[pile * MOST_CANDIDATES + k];
                if (journal.isHopeful(c)) {
                    return c;
                }
            }
            return NONE;
        }

        /** Lays a PILE with its NEXT one, or nowhere, with a value for each paper: the units that went. */
        private long send(House house, Journal journal, int pile, long value) {
            int next = nextOf(house, journal, pile);
            long units = house.papers[pile] * value;
            holders[row + pile] = next;
            if (next == NONE) {
                values[row + pile] = 0;
                journal.untransferable[journal.now()] += units;
            } else {
                values[row + pile] = (int) value;
                journal.votes[journal.row + next] += units;
                came[pile] = journal.now();
            }
            return units;
        }
    }

    /** The COUNT by RULE 3. */
    private static final class KeepRule {

        static void run(House house, Journal journal) {
            for (int i = 0; i < MOST_STAGES; i++) {
                share(house, journal);
                int electedAhead = journal.electedOnes;
                if (journal.settle()) {
                    return;
                }
                journal.excesses[i] = excessOf(journal);
                boolean anyElected = journal.electedOnes > electedAhead;
                int out = mustPutOut(journal, anyElected) ? journal.poorest() : NONE;
                if (out != NONE) {
                    journal.kinds[i] = ROUND_OUT_STAGE;
                    journal.whose[i] = out;
                    journal.states[journal.row + out] = OUT;
                }
                if (!journal.turn(ROUND_STAGE, NONE)) {
                    return;
                }
                changeKeeps(journal, out);
            }
        }

        private static void share(House house, Journal journal) {
            for (int c = 0; c < journal.candidates; c++) {
                journal.votes[journal.row + c] = 0;
            }
            long rests = 0;
            for (int pile = 0; pile < house.piles; pile++) {
                if (house.isValid(pile)) {
                    rests += house.papers[pile] * sharePapers(house, journal, pile);
                }
            }
            journal.untransferable[journal.now()] = rests;
            long all = 0;
            for (int c = 0; c < journal.candidates; c++) {
                all += journal.votes[journal.row + c];
            }
            journal.quotas[journal.now()] = all / (journal.seats + 1) + 1;
        }

        /** Gives out all papers of a PILE, which go alike: what is left of each. */
        private static long sharePapers(House house, Journal journal, int pile) {
            long rest = WHOLE_KEEP;
            for (int k = 0; k < house.lengths[pile]; k++) {
                // withdrawn ones need no test: the journal has a keep of 0 for them
                int here = journal.row + house.preferences[pile * MOST_CANDIDATES + k];
                long part = rest * journal.keeps[here] / WHOLE_KEEP;
                journal.votes[here] += house.papers[pile] * part;
                rest -= part;
            }
            return rest;
        }

        private static long excessOf(Journal journal) {
            long excess = 0;
            for (int c = 0; c < journal.candidates; c++) {
                if (journal.isElected(c)) {
                    excess += Math.max(0, journal.votes[journal.row + c] - journal.quota());
                }
            }
            return excess;
        }

        private static boolean mustPutOut(Journal journal, boolean anyElected) {
            int now = journal.now();
            if (now >= FORCED_STAGE) {
                return true;
            }
            if (anyElected) {
                return false;
            }
            long excess = journal.excesses[now];
            boolean noProgress = now > 0
                    && journal.kinds[now - 1] == ROUND_STAGE
                    && excess >= journal.excesses[now - 1];
            return excess < SMALL_EXCESS || noProgress;
        }

        /** For a ROUND just begun, whose rows still are a copy of the ROUND ahead. */
        private static void changeKeeps(Journal journal, int out) {
            if (out != NONE) {
                journal.keeps[journal.row + out] = 0;
                return;
            }
            for (int c = 0; c < journal.candidates; c++) {
                if (journal.isElected(c)) {
                    int here = journal.row + c;
                    journal.keeps[here] = keepFor(journal.keeps[here], journal.quota(), journal.votes[here]);
                }
            }
        }

        private static int keepFor(long keep, long quota, long votes) {
            if (votes <= 0) {
                return WHOLE_KEEP;
            }
            return (int) Math.min(WHOLE_KEEP, keep * quota / votes + 1);
        }
    }
}
