/**
 * Sparse checks on words: bits, checks over some of them, messages from checks to bits, and what can be asked of
 * them. The words in capitals in the comments are those of the document (../shared/DOC.md).
 */
public final class SparseChecks {
    public static final int UNKNOWN = -1, BAD = -2, LATE = -3, FULL = -4, NONE = -9;

    private static final int FEWEST_BITS = 2;
    private static final int MOST_BITS = 9;
    private static final int MOST_CHECKS = 6;
    private static final int MOST_LETTERS = 70;
    private static final int MOST_LETTER = 255;
    private static final int MOST_OFFSET = 9;
    private static final int MOST_LEVEL = 31;
    private static final int MOST_MESSAGE = 31;
    private static final int MOST_TOTAL = 99;
    private static final int LEAST_WITHOUT_OTHERS = 99;
    private static final int MOST_ROUNDS_TOLD = 99;
    private static final int MOST_NEEDS = 20;
    private static final int MOST_ACTS = 14;
    private static final int MOST_SEEN = 6;
    private static final int MOST_SEEN_OPEN = 63;
    private static final int MOST_DOINGS = 4;
    private static final int MOST_TENTHS = 10;
    private static final int MOST_DRAWS = 20;
    private static final int SLOTS = 2;
    /** What is told of a LEVEL, a TOTAL or a MESSAGE is so much more than it is, so that it is never a refusal. */
    private static final int TOLD_MORE = 100;
    private static final long SEED_FACTOR = 6364136223846793005L;
    private static final long SEED_STEP = 1442695040888963407L;
    private static final int[] FACTORIALS = {1, 1, 2, 6, 24, 120, 720};

    private final Text text;
    private final State now;
    /** Questions that run ROUNDS or change something do so here, never in what stands now. */
    private final State trial;
    private final Decoder decoder;
    private final Ways ways;
    private final Sums sums;
    private final Acts acts;
    private final Seen seen;
    private final State[] slots;
    private final boolean[] kept;
    private long seedNow;

    public SparseChecks() {
        text = new Text();
        now = new State();
        trial = new State();
        decoder = new Decoder();
        ways = new Ways(now);
        sums = new Sums(now);
        acts = new Acts();
        seen = new Seen();
        slots = new State[SLOTS];
        for (int i = 0; i < SLOTS; i++) {
            slots[i] = new State();
        }
        kept = new boolean[SLOTS];
        seedNow = 0L;
    }

    // ---- the code

    public int write(int letter) {
        if (letter < 0 || letter > MOST_LETTER) {
            return BAD;
        }
        if (text.length >= MOST_LETTERS) {
            return FULL;
        }
        return text.append(letter);
    }

    public int wipe() {
        int was = text.length;
        text.length = 0;
        return was;
    }

    public int fault() {
        return text.firstFault();
    }

    public int code() {
        if (text.firstFault() != NONE) {
            return LATE;
        }
        now.becomeCode(text.reading);
        acts.forgetAll();
        for (int i = 0; i < SLOTS; i++) {
            kept[i] = false;
        }
        return now.checks;
    }

    public int about(int what) {
        switch (what) {
            case 0: return now.bits;
            case 1: return now.checks;
            case 2: return now.offset;
            case 3: return now.rounds;
            case 4: return now.word();
            case 5: return now.open();
            case 6: return now.solved() ? 1 : 0;
            case 7: return ways.ring();
            case 8: return sums.rankOf(now.allChecks());
            case 9: return sums.howManyWords();
            case 10: return sums.distance();
            case 11: return needs();
            case 12: return ends();
            case 13: return best();
            case 14: return acts.count;
            case 15: return seen.count;
            case 16: return text.length;
            default: return BAD;
        }
    }

    public int bit(int bit, int what) {
        if (!now.hasBit(bit)) {
            return UNKNOWN;
        }
        switch (what) {
            case 0: return now.level[bit] + TOLD_MORE;
            case 1: return now.total[bit] + TOLD_MORE;
            case 2: return now.checksOver(bit);
            default: return BAD;
        }
    }

    public int check(int check) {
        return now.hasCheck(check) ? now.over[check] : UNKNOWN;
    }

    public int message(int check, int bit) {
        if (!now.hasCheck(check) || !now.hasBit(bit)) {
            return UNKNOWN;
        }
        return now.isOver(check, bit) ? now.message[check * MOST_BITS + bit] + TOLD_MORE : NONE;
    }

    // ---- acts

    public int level(int bit, int v) {
        if (!now.hasBit(bit)) {
            return UNKNOWN;
        }
        if (v < -MOST_LEVEL || v > MOST_LEVEL) {
            return BAD;
        }
        acts.remember(now);
        int was = now.level[bit];
        now.level[bit] = v;
        return was + TOLD_MORE;
    }

    public int begin() {
        acts.remember(now);
        now.beginAnew();
        return now.word();
    }

    public int round(int n) {
        if (n < 1 || n > MOST_ROUNDS_TOLD) {
            return BAD;
        }
        acts.remember(now);
        decoder.runRounds(now, n);
        return Integer.bitCount(now.open());
    }

    public int put(int check, int bit) {
        if (!now.hasCheck(check) || !now.hasBit(bit)) {
            return UNKNOWN;
        }
        acts.remember(now);
        now.turnOver(check, bit);
        return now.isOver(check, bit) ? 1 : 0;
    }

    public int grow(int bit, int d) {
        if (!now.hasBit(bit)) {
            return UNKNOWN;
        }
        if (d < 1 || d > now.checks) {
            return BAD;
        }
        acts.remember(now);
        int more = 0;
        for (int over = Integer.bitCount(now.checksOver(bit)); over < d; over++) {
            now.turnOver(ways.checkToGrowInto(bit), bit);
            more++;
        }
        return more;
    }

    public int offset(int v) {
        if (v < 0 || v > MOST_OFFSET) {
            return BAD;
        }
        acts.remember(now);
        int was = now.offset;
        now.offset = v;
        return was;
    }

    public int undo() {
        if (acts.count == 0) {
            return LATE;
        }
        acts.giveBackLast(now);
        return acts.count;
    }

    // ---- asked

    public int traps(int a, int b, int what) {
        if (a < 1 || a > now.bits || b < 0 || b > MOST_CHECKS) {
            return BAD;
        }
        switch (what) {
            case 0: return sums.howManyTraps(a, b);
            case 1: return sums.leastTrap(a, b);
            default: return BAD;
        }
    }

    public int same(int row) {
        if (!decoder.orderBy(row, now.checks)) {
            decoder.orderAsNumbered();
            return BAD;
        }
        int endsByRow = ends();
        decoder.orderAsNumbered();
        return endsByRow == ends() ? 1 : 0;
    }

    public int judge(int n, long row) {
        if (n < 1 || n > MOST_DOINGS || row < 0 || Doings.withoutLast(row, n) != 0) {
            return BAD;
        }
        trial.becomeLike(now);
        for (int place = 0; place < n; place++) {
            int doing = (int) (Doings.withoutLast(row, n - 1 - place) % Doings.FIGURES);
            if (!Doings.goesThrough(doing, trial, decoder)) {
                return place;
            }
        }
        return NONE;
    }

    // ---- seen

    public int see(int n, int v) {
        if (n < 0 || n > MOST_NEEDS || v < 0 || v > MOST_SEEN_OPEN) {
            return BAD;
        }
        if (seen.count >= MOST_SEEN) {
            return FULL;
        }
        return seen.add(n, v);
    }

    public int unsee() {
        int was = seen.count;
        seen.count = 0;
        return was;
    }

    public int which() {
        int found = 0;
        trial.becomeLike(now);
        for (int bit = 0; bit < now.bits; bit++) {
            trial.level[bit] = -now.level[bit];
            if (seen.isSoBy(trial, decoder)) {
                found |= 1 << bit;
            }
            trial.level[bit] = now.level[bit];
        }
        return found;
    }

    // ---- shares, chances

    public int share(int check, boolean upper) {
        if (!now.hasCheck(check)) {
            return UNKNOWN;
        }
        return inLeastTerms(sums.ordersInWhichRankGrows(check), FACTORIALS[now.checks], upper);
    }

    public int chance(int v, int x, boolean upper) {
        if (v < 1 || v > MOST_LEVEL || x < 0 || x > MOST_TENTHS) {
            return BAD;
        }
        long above = 0;
        trial.becomeLike(now);
        for (int turned = 0; turned < 1 << now.bits; turned++) {
            int less = Integer.bitCount(turned);
            long weight = power(x, less) * power(MOST_TENTHS - x, now.bits - less);
            // What can not come about needs no ROUNDS.
            if (weight != 0 && endsEmpty(turned, v)) {
                above += weight;
            }
        }
        return inLeastTerms(above, power(MOST_TENTHS, now.bits), upper);
    }

    public long seed(long v) {
        long was = seedNow;
        seedNow = v;
        return was;
    }

    public int drawn(int m) {
        if (m < 1 || m > MOST_DRAWS) {
            return BAD;
        }
        int solved = 0;
        trial.becomeLike(now);
        for (int i = 0; i < m; i++) {
            seedNow = seedNow * SEED_FACTOR + SEED_STEP;
            int v = (int) (seedNow >>> 33);
            for (int bit = 0; bit < now.bits; bit++) {
                trial.level[bit] = (v >> 3 * bit & 7) - 2;
            }
            if (decoder.runUntilSolved(trial) != NONE) {
                solved++;
            }
        }
        return solved;
    }

    // ---- slots

    public int keep(int slot) {
        if (slot < 0 || slot >= SLOTS) {
            return UNKNOWN;
        }
        slots[slot].becomeLike(now);
        kept[slot] = true;
        return now.rounds;
    }

    public int again(int slot) {
        if (slot < 0 || slot >= SLOTS) {
            return UNKNOWN;
        }
        if (!kept[slot]) {
            return LATE;
        }
        now.becomeLike(slots[slot]);
        acts.forgetAll();
        return now.rounds;
    }

    // ---- what the calls share

    private int needs() {
        trial.becomeLike(now);
        return decoder.runUntilSolved(trial);
    }

    private int ends() {
        needs();
        return trial.word();
    }

    private int best() {
        int best = NONE;
        int fewest = MOST_NEEDS + 1;
        trial.becomeLike(now);
        for (int v = 0; v <= MOST_OFFSET; v++) {
            trial.offset = v;
            int needed = decoder.runUntilSolved(trial);
            if (needed != NONE && needed < fewest) {
                fewest = needed;
                best = v;
            }
        }
        return best;
    }

    /** Whether ENDS is no BIT at all, each LEVEL being v, but less than 0 for the BITS that are turned. */
    private boolean endsEmpty(int turned, int v) {
        for (int bit = 0; bit < trial.bits; bit++) {
            trial.level[bit] = (turned >> bit & 1) == 0 ? v : -v;
        }
        decoder.runUntilSolved(trial);
        return trial.word() == 0;
    }

    private static long power(int base, int times) {
        long product = 1;
        for (int i = 0; i < times; i++) {
            product *= base;
        }
        return product;
    }

    /** The upper or the lower part of a FRACTION whose parts are 0 or more, the lower one 1 or more. */
    private static int inLeastTerms(long above, long below, boolean upper) {
        long divisor = commonDivisor(above, below);
        if (divisor == 0) {
            return 0;
        }
        return (int) ((upper ? above : below) / divisor);
    }

    private static long commonDivisor(long a, long b) {
        long greater = a;
        long less = b;
        // A long's pair is through in fewer than a hundred steps.
        for (int step = 0; step < 100 && less != 0; step++) {
            long rest = greater % less;
            greater = less;
            less = rest;
        }
        return greater;
    }

    private static int held(int value, int least, int most) {
        return value < least ? least : value > most ? most : value;
    }

    /** THE TEXT. */
    private static final class Text {
        final int[] letters;
        final Reading reading;
        int length;

        Text() {
            letters = new int[MOST_LETTERS];
            reading = new Reading();
            length = 0;
        }

        int append(int letter) {
            if (length < MOST_LETTERS) {
                letters[length] = letter;
                length++;
            }
            return length;
        }

        /** FAULT; if it is NONE, the reading has what THE TEXT says. */
        int firstFault() {
            reading.startAnew();
            for (int place = 0; place < length; place++) {
                if (!reading.takes(letters[place])) {
                    return place;
                }
            }
            return reading.mayEnd() ? NONE : length;
        }
    }

    /** A CODE as it is read, letter by letter. */
    private static final class Reading {
        final int[] over;
        int place;
        int bits;
        int offset;
        int checks;
        int leastNextBit;
        boolean insideCheck;

        Reading() {
            over = new int[MOST_CHECKS];
        }

        void startAnew() {
            place = 0;
            bits = 0;
            offset = 0;
            checks = 0;
            leastNextBit = 0;
            insideCheck = false;
        }

        /** Whether a CODE can go on with this letter; if not, the reading is of no further use. */
        boolean takes(int letter) {
            int at = place;
            place++;
            switch (at) {
                case 0: return letter == 'C';
                case 1: return takesBits(letter);
                case 2: return takesOffset(letter);
                default: return insideCheck ? takesInCheck(letter) : takesCheck(letter);
            }
        }

        boolean mayEnd() {
            return place > 2 && !insideCheck;
        }

        private boolean takesBits(int letter) {
            bits = letter - '0';
            return bits >= FEWEST_BITS && bits <= MOST_BITS;
        }

        private boolean takesOffset(int letter) {
            offset = letter - '0';
            return offset >= 0 && offset <= MOST_OFFSET;
        }

        private boolean takesCheck(int letter) {
            if (letter != 'c' || checks >= MOST_CHECKS) {
                return false;
            }
            over[checks] = 0;
            checks++;
            leastNextBit = 0;
            insideCheck = true;
            return true;
        }

        private boolean takesInCheck(int letter) {
            if (letter == '.') {
                insideCheck = false;
                return true;
            }
            int bit = letter - '0';
            if (bit < leastNextBit || bit >= bits || checks < 1) {
                return false;
            }
            over[checks - 1] |= 1 << bit;
            leastNextBit = bit + 1;
            return true;
        }
    }

    /** CHECKS over BITS, with OFFSET, LEVELS, TOTALS, MESSAGES, ROUNDS: all that an ACT can change. */
    private static final class State {
        final int[] over;
        final int[] level;
        final int[] total;
        /** The MESSAGE of a CHECK to a BIT is at CHECK * MOST_BITS + BIT; 0 where the CHECK is not OVER the BIT. */
        final int[] message;
        int bits;
        int checks;
        int offset;
        int rounds;

        State() {
            over = new int[MOST_CHECKS];
            level = new int[MOST_BITS];
            total = new int[MOST_BITS];
            message = new int[MOST_CHECKS * MOST_BITS];
            bits = FEWEST_BITS;
            checks = 0;
            offset = 0;
            rounds = 0;
        }

        void becomeCode(Reading reading) {
            bits = reading.bits;
            checks = reading.checks;
            offset = reading.offset;
            System.arraycopy(reading.over, 0, over, 0, MOST_CHECKS);
            for (int bit = 0; bit < MOST_BITS; bit++) {
                level[bit] = 0;
            }
            beginAnew();
        }

        void becomeLike(State other) {
            bits = other.bits;
            checks = other.checks;
            offset = other.offset;
            rounds = other.rounds;
            System.arraycopy(other.over, 0, over, 0, MOST_CHECKS);
            System.arraycopy(other.level, 0, level, 0, MOST_BITS);
            System.arraycopy(other.total, 0, total, 0, MOST_BITS);
            System.arraycopy(other.message, 0, message, 0, MOST_CHECKS * MOST_BITS);
        }

        /** BEGUN. */
        void beginAnew() {
            System.arraycopy(level, 0, total, 0, MOST_BITS);
            for (int i = 0; i < MOST_CHECKS * MOST_BITS; i++) {
                message[i] = 0;
            }
            rounds = 0;
        }

        boolean hasBit(int bit) {
            return bit >= 0 && bit < bits;
        }

        boolean hasCheck(int check) {
            return check >= 0 && check < checks;
        }

        int allChecks() {
            return (1 << checks) - 1;
        }

        boolean isOver(int check, int bit) {
            return hasCheck(check) && hasBit(bit) && (over[check] >> bit & 1) != 0;
        }

        /** PUT. */
        void turnOver(int check, int bit) {
            if (hasCheck(check) && hasBit(bit)) {
                over[check] ^= 1 << bit;
                message[check * MOST_BITS + bit] = 0;
            }
        }

        int checksOver(int bit) {
            int found = 0;
            for (int check = 0; check < checks; check++) {
                found |= (over[check] >> bit & 1) << check;
            }
            return found;
        }

        /** THE WORD. */
        int word() {
            int found = 0;
            for (int bit = 0; bit < bits; bit++) {
                if (total[bit] < 0) {
                    found |= 1 << bit;
                }
            }
            return found;
        }

        int open() {
            return openBy(word());
        }

        /** What would be OPEN, were the set THE WORD. */
        int openBy(int set) {
            int found = 0;
            for (int check = 0; check < checks; check++) {
                found |= (Integer.bitCount(over[check] & set) & 1) << check;
            }
            return found;
        }

        boolean solved() {
            return openBy(word()) == 0;
        }
    }

    /** Runs ROUNDS on a state, the CHECKS in an order that can be told. */
    private static final class Decoder {
        private final int[] order;
        private final int[] q;
        /** The least amount of Q of the others is the least of all but at one BIT, where it is the second least. */
        private int least;
        private int second;
        private int leastBit;

        Decoder() {
            order = new int[MOST_CHECKS];
            q = new int[MOST_BITS];
            orderAsNumbered();
        }

        void orderAsNumbered() {
            for (int i = 0; i < MOST_CHECKS; i++) {
                order[i] = i;
            }
        }

        /** Takes the order that the figures of the row tell; false, if they are no ROW of so many CHECKS. */
        boolean orderBy(int row, int checks) {
            if (row < 0) {
                return false;
            }
            int rest = row;
            int met = 0;
            for (int i = checks - 1; i >= 0; i--) {
                int check = rest % 10;
                if (check >= checks || (met >> check & 1) != 0) {
                    return false;
                }
                order[i] = check;
                met |= 1 << check;
                rest /= 10;
            }
            return rest == 0;
        }

        void runRounds(State state, int n) {
            boolean changes = true;
            for (int i = 0; i < n && changes; i++) {
                changes = runRound(state);
            }
            state.rounds += n;
        }

        /** NEEDS, or NONE; the state is left as it is behind so many ROUNDS, or behind the most, from BEGUN on. */
        int runUntilSolved(State state) {
            state.beginAnew();
            boolean changes = true;
            for (int n = 0; n < MOST_NEEDS && changes; n++) {
                if (state.solved()) {
                    return n;
                }
                changes = runRound(state);
            }
            return state.solved() ? MOST_NEEDS : NONE;
        }

        /** A ROUND, not counted: whether it changed anything; if not, no later one will. */
        boolean runRound(State state) {
            boolean changes = false;
            for (int i = 0; i < state.checks; i++) {
                int check = order[i];
                int signs = findOthers(state, state.over[check], check * MOST_BITS);
                changes |= sendMessages(state, state.over[check], check * MOST_BITS, signs);
            }
            return changes;
        }

        /** Finds Q of all BITS that a CHECK is OVER, and the least amounts: 1 if an odd number is less than 0, or 0. */
        private int findOthers(State state, int over, int from) {
            // An amount above the one without others comes to the same MESSAGE, so the search may begin there.
            int leastYet = LEAST_WITHOUT_OTHERS;
            int secondYet = LEAST_WITHOUT_OTHERS;
            int signs = 0;
            leastBit = -1;
            for (int bit = 0; bit < state.bits; bit++) {
                if ((over >> bit & 1) != 0) {
                    int value = state.total[bit] - state.message[from + bit];
                    int amount = value < 0 ? -value : value;
                    q[bit] = value;
                    signs ^= value >>> 31;
                    if (amount < leastYet) {
                        secondYet = leastYet;
                        leastYet = amount;
                        leastBit = bit;
                    } else if (amount < secondYet) {
                        secondYet = amount;
                    }
                }
            }
            least = leastYet;
            second = secondYet;
            return signs;
        }

        /** Sends the MESSAGES of a CHECK by what was found: whether one is another than it was. */
        private boolean sendMessages(State state, int over, int from, int signs) {
            boolean changes = false;
            int amount = held(least - state.offset, 0, MOST_MESSAGE);
            int amountAtLeast = held(second - state.offset, 0, MOST_MESSAGE);
            for (int bit = 0; bit < state.bits; bit++) {
                if ((over >> bit & 1) != 0) {
                    int value = q[bit];
                    int sent = bit == leastBit ? amountAtLeast : amount;
                    if ((signs ^ value >>> 31) != 0) {
                        sent = -sent;
                    }
                    // By the MESSAGE that there was Q comes back to the TOTAL that there is.
                    if (state.message[from + bit] != sent) {
                        state.message[from + bit] = sent;
                        state.total[bit] = held(value + sent, -MOST_TOTAL, MOST_TOTAL);
                        changes = true;
                    }
                }
            }
            return changes;
        }
    }

    /** What is asked of the ways that go from BITS to CHECKS and back. */
    private static final class Ways {
        private final State state;

        Ways(State state) {
            this.state = state;
        }

        /** RING. */
        int ring() {
            int shortest = NONE;
            for (int check = 0; check < state.checks; check++) {
                for (int bit = 0; bit < state.bits; bit++) {
                    int found = state.isOver(check, bit) ? ringOver(check, bit) : NONE;
                    if (found != NONE && (shortest == NONE || found < shortest)) {
                        shortest = found;
                    }
                }
            }
            return shortest;
        }

        /** The shortest ring on which the CHECK comes just ahead of the BIT; NONE. */
        private int ringOver(int check, int bit) {
            int bitsMet = 1 << bit;
            int last = state.checksOver(bit) & ~(1 << check);
            int checksMet = last;
            for (int steps = 1; steps <= MOST_CHECKS && last != 0; steps++) {
                int bitsNew = bitsUnder(last) & ~bitsMet;
                bitsMet |= bitsNew;
                last = checksOverAny(bitsNew) & ~checksMet;
                checksMet |= last;
                if ((last >> check & 1) != 0) {
                    return 2 * (steps + 1);
                }
            }
            return NONE;
        }

        /** The CHECK that a BIT comes to next when it is GROWN; there is one that is not OVER it. */
        int checkToGrowInto(int bit) {
            int farthest = farthestChecks(bit);
            int chosen = -1;
            int fewest = MOST_BITS + 1;
            for (int check = 0; check < state.checks; check++) {
                int size = Integer.bitCount(state.over[check]);
                if ((farthest >> check & 1) != 0 && size < fewest) {
                    fewest = size;
                    chosen = check;
                }
            }
            return chosen;
        }

        /** CHECKS to which no way leads from a BIT, or else those at the end of the longest shortest way. */
        private int farthestChecks(int bit) {
            int bitsMet = 1 << bit;
            int checksMet = state.checksOver(bit);
            int last = checksMet;
            int next = last;
            for (int steps = 1; steps <= MOST_CHECKS && next != 0; steps++) {
                last = next;
                int bitsNew = bitsUnder(last) & ~bitsMet;
                bitsMet |= bitsNew;
                next = checksOverAny(bitsNew) & ~checksMet;
                checksMet |= next;
            }
            int notMet = state.allChecks() & ~checksMet;
            return notMet != 0 ? notMet : last;
        }

        private int bitsUnder(int checkSet) {
            int found = 0;
            for (int check = 0; check < state.checks; check++) {
                if ((checkSet >> check & 1) != 0) {
                    found |= state.over[check];
                }
            }
            return found;
        }

        private int checksOverAny(int bitSet) {
            int found = 0;
            for (int check = 0; check < state.checks; check++) {
                if ((state.over[check] & bitSet) != 0) {
                    found |= 1 << check;
                }
            }
            return found;
        }
    }

    /** What is asked of CHECKS as sets of BITS that are added modulo two. */
    private static final class Sums {
        private final State state;
        /** By the highest BIT of each: CHECKS, or sums of them, that do not follow from others. */
        private final int[] basis;

        Sums(State state) {
            this.state = state;
            basis = new int[MOST_BITS];
        }

        /** RANK of some of the CHECKS. */
        int rankOf(int checkSet) {
            for (int bit = 0; bit < MOST_BITS; bit++) {
                basis[bit] = 0;
            }
            int rank = 0;
            for (int check = 0; check < state.checks; check++) {
                if ((checkSet >> check & 1) != 0 && joinsBasis(state.over[check])) {
                    rank++;
                }
            }
            return rank;
        }

        /** Whether the set does not follow from the basis; then it is put into it. */
        private boolean joinsBasis(int set) {
            int rest = set;
            for (int bit = MOST_BITS - 1; bit >= 0; bit--) {
                if ((rest >> bit & 1) != 0) {
                    if (basis[bit] == 0) {
                        basis[bit] = rest;
                        return true;
                    }
                    rest ^= basis[bit];
                }
            }
            return false;
        }

        /** WORDS: each CHECK that does not follow from others halves them. */
        int howManyWords() {
            return 1 << state.bits - rankOf(state.allChecks());
        }

        int distance() {
            int fewest = NONE;
            for (int set = 1; set < 1 << state.bits; set++) {
                int size = Integer.bitCount(set);
                if ((fewest == NONE || size < fewest) && state.openBy(set) == 0) {
                    fewest = size;
                }
            }
            return fewest;
        }

        int howManyTraps(int a, int b) {
            int found = 0;
            for (int set = 1; set < 1 << state.bits; set++) {
                if (isTrap(set, a, b)) {
                    found++;
                }
            }
            return found;
        }

        int leastTrap(int a, int b) {
            for (int set = 1; set < 1 << state.bits; set++) {
                if (isTrap(set, a, b)) {
                    return set;
                }
            }
            return NONE;
        }

        private boolean isTrap(int set, int a, int b) {
            return Integer.bitCount(set) == a && Integer.bitCount(state.openBy(set)) == b;
        }

        /** Of all orders in which CHECKS can come: in how many RANK is one more when this one has come. */
        int ordersInWhichRankGrows(int check) {
            int orders = 0;
            for (int ahead = 0; ahead <= state.allChecks(); ahead++) {
                if ((ahead >> check & 1) == 0 && rankOf(ahead | 1 << check) > rankOf(ahead)) {
                    int size = Integer.bitCount(ahead);
                    orders += FACTORIALS[size] * FACTORIALS[state.checks - 1 - size];
                }
            }
            return orders;
        }
    }

    /** The row of ACTS: of each how all was ahead of it. */
    private static final class Acts {
        private final State[] ahead;
        private int first;
        int count;

        Acts() {
            ahead = new State[MOST_ACTS];
            for (int i = 0; i < MOST_ACTS; i++) {
                ahead[i] = new State();
            }
            first = 0;
            count = 0;
        }

        void remember(State state) {
            if (count == MOST_ACTS) {
                first = (first + 1) % MOST_ACTS;
                count--;
            }
            ahead[(first + count) % MOST_ACTS].becomeLike(state);
            count++;
        }

        void giveBackLast(State state) {
            if (count > 0) {
                count--;
                state.becomeLike(ahead[(first + count) % MOST_ACTS]);
            }
        }

        void forgetAll() {
            count = 0;
        }
    }

    /** SEEN. */
    private static final class Seen {
        private final int[] rounds;
        private final int[] open;
        int count;

        Seen() {
            rounds = new int[MOST_SEEN];
            open = new int[MOST_SEEN];
            count = 0;
        }

        int add(int n, int v) {
            if (count < MOST_SEEN) {
                rounds[count] = n;
                open[count] = v;
                count++;
            }
            return count;
        }

        /** Whether all that is SEEN is so by the LEVELS of the state, which is left in some ROUND. */
        boolean isSoBy(State state, Decoder decoder) {
            int most = mostRounds();
            state.beginAnew();
            for (int n = 0; n < most; n++) {
                if (!isSoBehind(n, state.open())) {
                    return false;
                }
                decoder.runRound(state);
            }
            return isSoBehind(most, state.open());
        }

        private int mostRounds() {
            int most = 0;
            for (int i = 0; i < count; i++) {
                most = Math.max(most, rounds[i]);
            }
            return most;
        }

        private boolean isSoBehind(int n, int v) {
            for (int i = 0; i < count; i++) {
                if (rounds[i] == n && open[i] != v) {
                    return false;
                }
            }
            return true;
        }
    }

    /** Doings that are JUDGED, each told as three figures. */
    private static final class Doings {
        static final int FIGURES = 1000;

        private Doings() {
        }

        /** The row without so many of its last doings. */
        static long withoutLast(long row, int doings) {
            long rest = row;
            for (int i = 0; i < doings; i++) {
                rest /= FIGURES;
            }
            return rest;
        }

        /** Does what is told, or asks whether it is so; false, if it can not be or is not so. */
        static boolean goesThrough(int doing, State state, Decoder decoder) {
            int second = doing / 10 % 10;
            int third = doing % 10;
            switch (doing / 100) {
                case 1: return runs(second * 10 + third, state, decoder);
                case 2: return second == 0 && third == 0 && begins(state);
                case 3: return puts(second, third, state);
                case 4: return state.hasBit(second) && third == (state.word() >> second & 1);
                case 5: return second == 0 && third == 0 && state.solved();
                case 6: return state.hasCheck(second) && third == (state.open() >> second & 1);
                case 7: return second == 0 && offsets(third, state);
                default: return false;
            }
        }

        private static boolean runs(int n, State state, Decoder decoder) {
            decoder.runRounds(state, n);
            return n > 0;
        }

        private static boolean begins(State state) {
            state.beginAnew();
            return true;
        }

        private static boolean puts(int check, int bit, State state) {
            state.turnOver(check, bit);
            return state.hasCheck(check) && state.hasBit(bit);
        }

        private static boolean offsets(int v, State state) {
            state.offset = v;
            return true;
        }
    }
}
