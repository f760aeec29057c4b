import java.math.BigInteger;
import java.util.ArrayDeque;
import java.util.ArrayList;
import java.util.Arrays;
import java.util.List;
import java.util.TreeSet;
import java.util.regex.Pattern;

/**
 * The document once more, written as plainly and with as little thought for speed as can be, to hold SparseChecks
 * against: the same calls, the same answers.
 */
final class Plain {
    private static final int UNKNOWN = -1, BAD = -2, LATE = -3, FULL = -4, NONE = -9;

    /** All that is kept, undone and gone on from. */
    private static final class All {
        int offset = 0;
        int rounds = 0;
        int[] level;
        int[] total;
        List<TreeSet<Integer>> checks = new ArrayList<>();
        int[][] message = new int[6][9];

        All(int n) {
            level = new int[n];
            total = new int[n];
        }

        All copy() {
            All other = new All(level.length);
            other.offset = offset;
            other.rounds = rounds;
            other.level = level.clone();
            other.total = total.clone();
            for (TreeSet<Integer> check : checks) {
                other.checks.add(new TreeSet<>(check));
            }
            for (int check = 0; check < 6; check++) {
                other.message[check] = message[check].clone();
            }
            return other;
        }

        int n() {
            return level.length;
        }

        void begin() {
            total = level.clone();
            message = new int[6][9];
            rounds = 0;
        }

        void round(List<Integer> row) {
            for (int c : row) {
                int[] q = new int[n()];
                for (int b : checks.get(c)) {
                    q[b] = total[b] - message[c][b];
                }
                for (int b : checks.get(c)) {
                    TreeSet<Integer> others = new TreeSet<>(checks.get(c));
                    others.remove(b);
                    int least = others.stream().mapToInt(o -> Math.abs(q[o])).min().orElse(99);
                    long signs = others.stream().filter(o -> q[o] < 0).count();
                    int amount = Math.max(0, Math.min(31, least - offset));
                    message[c][b] = signs % 2 == 1 ? -amount : amount;
                    total[b] = Math.max(-99, Math.min(99, q[b] + message[c][b]));
                }
            }
            rounds++;
        }

        void round() {
            round(numbered());
        }

        List<Integer> numbered() {
            List<Integer> row = new ArrayList<>();
            for (int c = 0; c < checks.size(); c++) {
                row.add(c);
            }
            return row;
        }

        TreeSet<Integer> word() {
            TreeSet<Integer> word = new TreeSet<>();
            for (int b = 0; b < n(); b++) {
                if (total[b] < 0) {
                    word.add(b);
                }
            }
            return word;
        }

        TreeSet<Integer> open(TreeSet<Integer> word) {
            TreeSet<Integer> open = new TreeSet<>();
            for (int c = 0; c < checks.size(); c++) {
                TreeSet<Integer> both = new TreeSet<>(checks.get(c));
                both.retainAll(word);
                if (both.size() % 2 == 1) {
                    open.add(c);
                }
            }
            return open;
        }

        boolean solved() {
            return open(word()).isEmpty();
        }

        void put(int c, int b) {
            if (!checks.get(c).remove(b)) {
                checks.get(c).add(b);
            }
            message[c][b] = 0;
        }

        TreeSet<Integer> over(int b) {
            TreeSet<Integer> over = new TreeSet<>();
            for (int c = 0; c < checks.size(); c++) {
                if (checks.get(c).contains(b)) {
                    over.add(c);
                }
            }
            return over;
        }
    }

    private final StringBuilder text = new StringBuilder();
    private All all = new All(2);
    private final List<All> acts = new ArrayList<>();
    private final List<int[]> seen = new ArrayList<>();
    private final All[] slots = new All[2];
    private long seed = 0;

    private static int bits(Iterable<Integer> set) {
        int bits = 0;
        for (int member : set) {
            bits |= 1 << member;
        }
        return bits;
    }

    private static TreeSet<Integer> set(int bits) {
        TreeSet<Integer> set = new TreeSet<>();
        for (int member = 0; member < 31; member++) {
            if ((bits >> member & 1) == 1) {
                set.add(member);
            }
        }
        return set;
    }

    private boolean noBit(int bit) {
        return bit < 0 || bit >= all.n();
    }

    private boolean noCheck(int check) {
        return check < 0 || check >= all.checks.size();
    }

    private void act() {
        acts.add(all.copy());
        if (acts.size() > 14) {
            acts.remove(0);
        }
    }

    // ---- the code

    public int write(int letter) {
        if (letter < 0 || letter > 255) {
            return BAD;
        }
        if (text.length() == 70) {
            return FULL;
        }
        text.append((char) letter);
        return text.length();
    }

    public int wipe() {
        int was = text.length();
        text.setLength(0);
        return was;
    }

    private static boolean isCode(String text) {
        for (int n = 2; n <= 9; n++) {
            StringBuilder check = new StringBuilder("c");
            for (int b = 0; b < n; b++) {
                check.append(b).append('?');
            }
            if (Pattern.matches("C" + n + "[0-9](" + check + "\\.){0,6}", text)) {
                return true;
            }
        }
        return false;
    }

    private static boolean canBecomeCode(String start) {
        String[] rests = {"", ".", "0", "20", "C20"};
        for (String rest : rests) {
            if (isCode(start + rest)) {
                return true;
            }
        }
        return false;
    }

    public int fault() {
        String whole = text.toString();
        for (int length = 1; length <= whole.length(); length++) {
            if (!canBecomeCode(whole.substring(0, length))) {
                return length - 1;
            }
        }
        return isCode(whole) ? NONE : whole.length();
    }

    public int code() {
        if (fault() != NONE) {
            return LATE;
        }
        String whole = text.toString();
        all = new All(whole.charAt(1) - '0');
        all.offset = whole.charAt(2) - '0';
        for (String check : whole.substring(3).split("c")) {
            if (!check.isEmpty()) {
                TreeSet<Integer> over = new TreeSet<>();
                for (char figure : check.substring(0, check.length() - 1).toCharArray()) {
                    over.add(figure - '0');
                }
                all.checks.add(over);
            }
        }
        acts.clear();
        Arrays.fill(slots, null);
        return all.checks.size();
    }

    public int about(int what) {
        return switch (what) {
            case 0 -> all.n();
            case 1 -> all.checks.size();
            case 2 -> all.offset;
            case 3 -> all.rounds;
            case 4 -> bits(all.word());
            case 5 -> bits(all.open(all.word()));
            case 6 -> all.solved() ? 1 : 0;
            case 7 -> ring();
            case 8 -> rank(all.checks);
            case 9 -> (int) words().stream().count();
            case 10 -> words().stream().mapToInt(TreeSet::size).filter(size -> size > 0).min().orElse(NONE);
            case 11 -> needs(all.copy(), all.numbered());
            case 12 -> ends(all.copy(), all.numbered());
            case 13 -> best();
            case 14 -> acts.size();
            case 15 -> seen.size();
            case 16 -> text.length();
            default -> BAD;
        };
    }

    public int bit(int bit, int what) {
        if (noBit(bit)) {
            return UNKNOWN;
        }
        return switch (what) {
            case 0 -> all.level[bit] + 100;
            case 1 -> all.total[bit] + 100;
            case 2 -> bits(all.over(bit));
            default -> BAD;
        };
    }

    public int check(int check) {
        return noCheck(check) ? UNKNOWN : bits(all.checks.get(check));
    }

    public int message(int check, int bit) {
        if (noCheck(check)) {
            return UNKNOWN;
        }
        if (noBit(bit)) {
            return UNKNOWN;
        }
        return all.checks.get(check).contains(bit) ? all.message[check][bit] + 100 : NONE;
    }

    // ---- acts

    public int level(int bit, int v) {
        if (noBit(bit)) {
            return UNKNOWN;
        }
        if (v < -31 || v > 31) {
            return BAD;
        }
        act();
        int was = all.level[bit];
        all.level[bit] = v;
        return was + 100;
    }

    public int begin() {
        act();
        all.begin();
        return bits(all.word());
    }

    public int round(int n) {
        if (n < 1 || n > 99) {
            return BAD;
        }
        act();
        for (int i = 0; i < n; i++) {
            all.round();
        }
        return all.open(all.word()).size();
    }

    public int put(int check, int bit) {
        if (noCheck(check) || noBit(bit)) {
            return UNKNOWN;
        }
        act();
        all.put(check, bit);
        return all.checks.get(check).contains(bit) ? 1 : 0;
    }

    public int grow(int bit, int d) {
        if (noBit(bit)) {
            return UNKNOWN;
        }
        if (d < 1 || d > all.checks.size()) {
            return BAD;
        }
        act();
        int more = 0;
        while (all.over(bit).size() < d) {
            all.put(growsInto(bit), bit);
            more++;
        }
        return more;
    }

    /** How long the shortest ways from a BIT to CHECKS are; a great number where there is none. */
    private int[] ways(int bit) {
        int[] toCheck = new int[all.checks.size()];
        int[] toBit = new int[all.n()];
        Arrays.fill(toCheck, 1000);
        Arrays.fill(toBit, 1000);
        toBit[bit] = 0;
        ArrayDeque<Integer> row = new ArrayDeque<>();
        row.add(bit);
        while (!row.isEmpty()) {
            int from = row.poll();
            for (int c : all.over(from)) {
                if (toCheck[c] == 1000) {
                    toCheck[c] = toBit[from] + 1;
                    for (int b : all.checks.get(c)) {
                        if (toBit[b] == 1000) {
                            toBit[b] = toCheck[c] + 1;
                            row.add(b);
                        }
                    }
                }
            }
        }
        return toCheck;
    }

    private int growsInto(int bit) {
        int[] ways = ways(bit);
        int chosen = -1;
        for (int c = 0; c < ways.length; c++) {
            if (all.checks.get(c).contains(bit)) {
                continue;
            }
            if (chosen < 0 || ways[c] > ways[chosen]
                    || ways[c] == ways[chosen] && all.checks.get(c).size() < all.checks.get(chosen).size()) {
                chosen = c;
            }
        }
        return chosen;
    }

    public int offset(int v) {
        if (v < 0 || v > 9) {
            return BAD;
        }
        act();
        int was = all.offset;
        all.offset = v;
        return was;
    }

    public int undo() {
        if (acts.isEmpty()) {
            return LATE;
        }
        all = acts.remove(acts.size() - 1);
        return acts.size();
    }

    // ---- asked

    private int ring() {
        for (int length = 4; length <= 12; length += 2) {
            for (int b = 0; b < all.n(); b++) {
                if (closes(b, b, length, new TreeSet<>(), new TreeSet<>())) {
                    return length;
                }
            }
        }
        return NONE;
    }

    /** Whether a way of so many steps more leads from a BIT home to the first one, over nothing twice. */
    private boolean closes(int first, int b, int steps, TreeSet<Integer> bitsMet, TreeSet<Integer> checksMet) {
        if (steps == 0) {
            return b == first;
        }
        if (bitsMet.contains(b)) {
            return false;
        }
        bitsMet.add(b);
        for (int c : all.over(b)) {
            if (checksMet.add(c)) {
                for (int next : all.checks.get(c)) {
                    if (next != b && closes(first, next, steps - 2, bitsMet, checksMet)) {
                        return true;
                    }
                }
                checksMet.remove(c);
            }
        }
        bitsMet.remove(b);
        return false;
    }

    private static int rank(List<TreeSet<Integer>> checks) {
        TreeSet<Integer> sums = new TreeSet<>();
        sums.add(0);
        for (TreeSet<Integer> check : checks) {
            for (int sum : new ArrayList<>(sums)) {
                sums.add(sum ^ bits(check));
            }
        }
        return Integer.numberOfTrailingZeros(sums.size());
    }

    private List<TreeSet<Integer>> words() {
        List<TreeSet<Integer>> words = new ArrayList<>();
        for (int bits = 0; bits < 1 << all.n(); bits++) {
            if (all.open(set(bits)).isEmpty()) {
                words.add(set(bits));
            }
        }
        return words;
    }

    private static int needs(All from, List<Integer> row) {
        from.begin();
        for (int n = 0; n <= 20; n++) {
            if (from.solved()) {
                return n;
            }
            if (n < 20) {
                from.round(row);
            }
        }
        return NONE;
    }

    private static int ends(All from, List<Integer> row) {
        needs(from, row);
        return bits(from.word());
    }

    private int best() {
        int best = NONE;
        int fewest = 1000;
        for (int v = 0; v <= 9; v++) {
            All other = all.copy();
            other.offset = v;
            int needed = needs(other, other.numbered());
            if (needed != NONE && needed < fewest) {
                fewest = needed;
                best = v;
            }
        }
        return best;
    }

    public int traps(int a, int b, int what) {
        if (a < 1 || a > all.n() || b < 0 || b > 6 || what < 0 || what > 1) {
            return BAD;
        }
        List<Integer> found = new ArrayList<>();
        for (int bits = 0; bits < 1 << all.n(); bits++) {
            if (set(bits).size() == a && all.open(set(bits)).size() == b) {
                found.add(bits);
            }
        }
        return what == 0 ? found.size() : found.isEmpty() ? NONE : found.get(0);
    }

    public int same(int row) {
        StringBuilder figures = new StringBuilder(row < 0 ? "" : Integer.toString(row));
        while (figures.length() < all.checks.size()) {
            figures.insert(0, '0');
        }
        List<Integer> checks = new ArrayList<>();
        if (!(all.checks.isEmpty() && row == 0)) {
            for (char figure : figures.toString().toCharArray()) {
                checks.add(figure - '0');
            }
        }
        List<Integer> sorted = new ArrayList<>(checks);
        sorted.sort(null);
        if (row < 0 || !sorted.equals(all.numbered())) {
            return BAD;
        }
        return ends(all.copy(), checks) == ends(all.copy(), all.numbered()) ? 1 : 0;
    }

    public int judge(int n, long row) {
        if (n < 1 || n > 4 || row < 0 || Long.toString(row).length() > 3 * n) {
            return BAD;
        }
        String figures = String.format("%0" + 3 * n + "d", row);
        All other = all.copy();
        for (int place = 0; place < n; place++) {
            if (!goes(other, figures.charAt(3 * place) - '0', figures.charAt(3 * place + 1) - '0',
                    figures.charAt(3 * place + 2) - '0')) {
                return place;
            }
        }
        return NONE;
    }

    private boolean goes(All other, int kind, int x, int y) {
        if (kind == 1 && 10 * x + y >= 1) {
            for (int i = 0; i < 10 * x + y; i++) {
                other.round();
            }
            return true;
        }
        if (kind == 2 && x == 0 && y == 0) {
            other.begin();
            return true;
        }
        if (kind == 3 && !noCheck(x) && !noBit(y)) {
            other.put(x, y);
            return true;
        }
        if (kind == 4 && !noBit(x) && y <= 1) {
            return other.word().contains(x) == (y == 1);
        }
        if (kind == 5 && x == 0 && y == 0) {
            return other.solved();
        }
        if (kind == 6 && !noCheck(x) && y <= 1) {
            return other.open(other.word()).contains(x) == (y == 1);
        }
        if (kind == 7 && x == 0) {
            other.offset = y;
            return true;
        }
        return false;
    }

    // ---- seen

    public int see(int n, int v) {
        if (n < 0 || n > 20 || v < 0 || v > 63) {
            return BAD;
        }
        if (seen.size() == 6) {
            return FULL;
        }
        seen.add(new int[] {n, v});
        return seen.size();
    }

    public int unsee() {
        int was = seen.size();
        seen.clear();
        return was;
    }

    public int which() {
        TreeSet<Integer> which = new TreeSet<>();
        for (int b = 0; b < all.n(); b++) {
            boolean so = true;
            for (int[] one : seen) {
                All other = all.copy();
                other.level[b] *= -1;
                other.begin();
                for (int i = 0; i < one[0]; i++) {
                    other.round();
                }
                so &= bits(other.open(other.word())) == one[1];
            }
            if (so) {
                which.add(b);
            }
        }
        return bits(which);
    }

    // ---- shares, chances

    private static int told(BigInteger above, BigInteger below, boolean upper) {
        BigInteger divisor = above.gcd(below);
        return (upper ? above : below).divide(divisor).intValueExact();
    }

    public int share(int check, boolean upper) {
        if (noCheck(check)) {
            return UNKNOWN;
        }
        int[] sum = new int[2];
        allOrders(new ArrayList<>(), check, sum);
        return told(BigInteger.valueOf(sum[0]), BigInteger.valueOf(sum[1]), upper);
    }

    private void allOrders(List<Integer> come, int check, int[] sum) {
        if (come.size() == all.checks.size()) {
            int place = come.indexOf(check);
            sum[0] += rank(picked(come.subList(0, place + 1))) - rank(picked(come.subList(0, place)));
            sum[1]++;
            return;
        }
        for (int c = 0; c < all.checks.size(); c++) {
            if (!come.contains(c)) {
                come.add(c);
                allOrders(come, check, sum);
                come.remove(come.size() - 1);
            }
        }
    }

    private List<TreeSet<Integer>> picked(List<Integer> which) {
        List<TreeSet<Integer>> checks = new ArrayList<>();
        for (int c : which) {
            checks.add(all.checks.get(c));
        }
        return checks;
    }

    public int chance(int v, int x, boolean upper) {
        if (v < 1 || v > 31 || x < 0 || x > 10) {
            return BAD;
        }
        BigInteger above = BigInteger.ZERO;
        for (int bits = 0; bits < 1 << all.n(); bits++) {
            All other = all.copy();
            BigInteger likely = BigInteger.ONE;
            for (int b = 0; b < all.n(); b++) {
                boolean less = set(bits).contains(b);
                other.level[b] = less ? -v : v;
                likely = likely.multiply(BigInteger.valueOf(less ? x : 10 - x));
            }
            if (ends(other, other.numbered()) == 0) {
                above = above.add(likely);
            }
        }
        return told(above, BigInteger.TEN.pow(all.n()), upper);
    }

    public long seed(long v) {
        long was = seed;
        seed = v;
        return was;
    }

    public int drawn(int m) {
        if (m < 1 || m > 20) {
            return BAD;
        }
        int solved = 0;
        for (int i = 0; i < m; i++) {
            seed = seed * 6364136223846793005L + 1442695040888963407L;
            int v = (int) (seed >>> 33);
            All other = all.copy();
            for (int b = 0; b < all.n(); b++) {
                other.level[b] = (v >> 3 * b & 7) - 2;
            }
            if (needs(other, other.numbered()) != NONE) {
                solved++;
            }
        }
        return solved;
    }

    // ---- slots

    public int keep(int slot) {
        if (slot < 0 || slot > 1) {
            return UNKNOWN;
        }
        slots[slot] = all.copy();
        return all.rounds;
    }

    public int again(int slot) {
        if (slot < 0 || slot > 1) {
            return UNKNOWN;
        }
        if (slots[slot] == null) {
            return LATE;
        }
        all = slots[slot].copy();
        acts.clear();
        return all.rounds;
    }
}
