import java.math.BigInteger;

/** The edges that the document names for SHARE, CHANCE, THE SEED, DRAWN and SLOTS (promises 23 to 28). */
public final class EdgesSharesTest {
    private static final int UNKNOWN = SparseChecks.UNKNOWN;
    private static final int BAD = SparseChecks.BAD;
    private static final int LATE = SparseChecks.LATE;
    private static final int NONE = SparseChecks.NONE;
    private static final int LOWEST = Integer.MIN_VALUE;
    private static final int HIGHEST = Integer.MAX_VALUE;

    public static void main(String[] args) {
        shareIsRefused();
        shareOfNothingAndOfAll();
        shareIsInLeastTerms();
        sharesMakeRank();
        chanceIsRefused();
        chanceByNoneAndAllTenths();
        chanceByLeastAndMostLevel();
        chanceOfNineBits();
        chanceIsThatOfAllLevels();
        chanceIsToldInLeastTerms();
        levelsAsToldDoNotMatter();
        seedIsAnyLong();
        drawnIsRefused();
        drawnWraps();
        drawnGoesOn();
        drawnLevelsAreMinus2To5();
        drawnChangesTheSeedAlone();
        slotsAre0And1();
        againIsLate();
        slotsKeepAllButActs();
        slotsKeepNoTextSeenOrSeed();
        slotsAreApart();
        keepLeavesActs();
        Due.end();
    }

    private static void shareIsRefused() {
        Due.sentence("SHARE. UNKNOWN");
        SparseChecks six = Due.coded("C20c0.c0.c0.c0.c0.c0.");
        SparseChecks one = Due.coded("C20c0.");
        int[] no = {-1, 6, 32, LOWEST, HIGHEST};
        for (int check : no) {
            Due.is("share of " + check, six.share(check, true), UNKNOWN);
            Due.is("share of " + check + ", below", six.share(check, false), UNKNOWN);
            Due.is("share of " + check + " of one", one.share(check, true), UNKNOWN);
        }
        Due.is("the last one", six.share(5, false), 6);
        Due.is("behind the last one", one.share(1, true), UNKNOWN);
        Due.is("at first there is none", new SparseChecks().share(0, true), UNKNOWN);
        Due.is("at first there is none, below", new SparseChecks().share(0, false), UNKNOWN);
    }

    private static void share(String code, int check, int above, int below) {
        SparseChecks x = Due.coded(code);
        Due.is("share of " + check + " of " + code, x.share(check, true), above);
        Due.is("share of " + check + " of " + code + ", below", x.share(check, false), below);
    }

    private static void shareOfNothingAndOfAll() {
        Due.sentence("SHARE of a CHECK: .. by how much RANK of those that have come is more in the mean when it has come");
        share("C20c.", 0, 0, 1);
        share("C20c01.", 0, 1, 1);
        share("C20c.c.c.c.c.c01.", 0, 0, 1);
        share("C20c.c.c.c.c.c01.", 5, 1, 1);
        share("C60c0.c1.c2.c3.c4.c5.", 0, 1, 1);
        share("C60c0.c1.c2.c3.c4.c5.", 5, 1, 1);
    }

    private static void shareIsInLeastTerms() {
        Due.sentence("FRACTIONS are told above (upper = true), below, in least terms");
        // Of so many like ones the first to come.
        share("C20c0.c0.", 1, 1, 2);
        share("C20c0.c0.c0.", 1, 1, 3);
        share("C20c0.c0.c0.c0.", 1, 1, 4);
        share("C20c0.c0.c0.c0.c0.", 1, 1, 5);
        share("C20c0.c0.c0.c0.c0.c0.", 1, 1, 6);
        // Of three of which any two make the third each one but the last: 4 of 6 orders.
        share("C30c01.c12.c02.", 0, 2, 3);
        // Of six round a ring each one but the last: 600 of 720 orders.
        share("C60c01.c12.c23.c34.c45.c05.", 3, 5, 6);
    }

    private static void sharesMakeRank() {
        Due.sentence("SHARE of a CHECK: if CHECKS come one by one, in each order as likely");
        String[] codes = {"C20c0.c1.c01.c.c01.c0.", "C50c012.c123.c03.c234.c4.c0134.", "C90c08.c08.c18.c01.c2.c2."};
        for (String code : codes) {
            SparseChecks x = Due.coded(code);
            int sum = 0;
            for (int check = 0; check < 6; check++) {
                int below = x.share(check, false);
                Due.is("below divides all orders", 720 % below, 0);
                sum += x.share(check, true) * (720 / below);
            }
            // In each order RANK grows to that of all.
            Due.is("all SHARES of " + code, sum, 720 * x.about(8));
        }
    }

    private static void chanceIsRefused() {
        Due.sentence("CHANCE. BAD: v, x; v (1 .. 31), x tenths (0 .. 10)");
        SparseChecks x = Due.coded("C20c01.");
        int[] badV = {0, -1, 32, -31, LOWEST, HIGHEST};
        for (int v : badV) {
            Due.is("chance " + v, x.chance(v, 5, true), BAD);
            Due.is("chance " + v + ", below", x.chance(v, 0, false), BAD);
            Due.is("chance " + v + ", both", x.chance(v, 11, false), BAD);
        }
        int[] badX = {-1, 11, LOWEST, HIGHEST};
        for (int tenths : badX) {
            Due.is("chance by " + tenths, x.chance(1, tenths, true), BAD);
            Due.is("chance by " + tenths + ", below", x.chance(31, tenths, false), BAD);
        }
    }

    private static void chance(String code, int v, int x, int above, int below) {
        SparseChecks of = Due.coded(code);
        Due.is("chance of " + code + " " + v + " " + x, of.chance(v, x, true), above);
        Due.is("chance of " + code + " " + v + " " + x + ", below", of.chance(v, x, false), below);
    }

    private static void chanceByNoneAndAllTenths() {
        Due.sentence("less than 0 by x tenths (0 .. 10), each by itself: that ENDS is no BIT at all");
        String[] codes = {"C20", "C20c01.", "C90c012.c345.", "C29c0.c1."};
        for (String code : codes) {
            chance(code, 1, 0, 1, 1);
            chance(code, 31, 0, 1, 1);
        }
        chance("C20", 1, 10, 0, 1);
        // Both less than 0 is a word, and ENDS is that.
        chance("C20c01.", 31, 10, 0, 1);
        // Each is turned by a CHECK of its own.
        chance("C29c0.c1.", 31, 10, 1, 1);
        chance("C20", 1, 1, 81, 100);
        chance("C20", 1, 9, 1, 100);
    }

    private static void chanceByLeastAndMostLevel() {
        Due.sentence("if each LEVEL were v (1 .. 31)");
        // By OFFSET 1 the MESSAGE is 1 less than the LEVEL and turns nothing: no BIT may be less than 0 to begin with.
        chance("C21c01.", 1, 5, 1, 4);
        chance("C21c01.", 31, 5, 1, 4);
        chance("C20c01.", 1, 5, 3, 4);
        chance("C20c01.", 31, 5, 3, 4);
    }

    private static void chanceOfNineBits() {
        Due.sentence("CHANCE: .. a FRACTION (of ten, nine times)");
        int nines = 387420489;
        chance("C90", 5, 1, nines, 1000000000);
        chance("C90", 5, 9, 1, 1000000000);
        chance("C90", 5, 5, 1, 512);
        chance("C90", 5, 10, 0, 1);
    }

    private static long power(int base, int times) {
        return times == 0 ? 1 : base * power(base, times - 1);
    }

    private static void chanceIsThatOfAllLevels() {
        Due.sentence("CHANCE: if each LEVEL were v (1 .. 31), but less than 0 by x tenths (0 .. 10), each by itself");
        String[] codes = {"C40c013.c23.c.c023.", "C41c012.c123.", "C30c01.c12.c02."};
        for (String code : codes) {
            int n = code.charAt(1) - '0';
            for (int v = 1; v <= 31; v += 15) {
                boolean[] empty = new boolean[1 << n];
                SparseChecks told = Due.coded(code);
                for (int word = 0; word < 1 << n; word++) {
                    for (int bit = 0; bit < n; bit++) {
                        told.level(bit, (word >> bit & 1) == 1 ? -v : v);
                    }
                    empty[word] = told.about(12) == 0;
                }
                for (int x = 0; x <= 10; x++) {
                    long above = 0;
                    for (int word = 0; word < 1 << n; word++) {
                        int less = Integer.bitCount(word);
                        above += empty[word] ? power(x, less) * power(10 - x, n - less) : 0;
                    }
                    long divisor = BigInteger.valueOf(above).gcd(BigInteger.valueOf(power(10, n))).longValue();
                    chance(code, v, x, (int) (above / divisor), (int) (power(10, n) / divisor));
                }
            }
        }
    }

    private static void chanceIsToldInLeastTerms() {
        Due.sentence("FRACTIONS are told above (upper = true), below, in least terms");
        chance("C20", 7, 2, 16, 25);
        chance("C20", 7, 4, 9, 25);
        chance("C20", 7, 5, 1, 4);
        chance("C30", 7, 8, 1, 125);
    }

    private static void levelsAsToldDoNotMatter() {
        Due.sentence("CHANCE, DRAWN: LEVELS as told do not matter");
        SparseChecks x = Due.coded("C41c012.c123.");
        int above = x.chance(6, 3, true);
        x.seed(12L);
        int drawn = x.drawn(20);
        for (int bit = 0; bit < 4; bit++) {
            x.level(bit, bit * 20 - 30);
        }
        Due.is("chance", x.chance(6, 3, true), above);
        x.seed(12L);
        Due.is("drawn", x.drawn(20), drawn);
        Due.is("LEVEL", x.bit(0, 0), 70);
    }

    private static void seedIsAnyLong() {
        Due.sentence("THE SEED is v: what it was (a long; 0 at first)");
        SparseChecks x = new SparseChecks();
        long[] seeds = {Long.MIN_VALUE, Long.MAX_VALUE, -1L, 1L, 1L << 32, 0L};
        long was = 0L;
        for (long seed : seeds) {
            Due.is("seed", x.seed(seed), was);
            was = seed;
        }
        Due.is("no ACTS", x.about(14), 0);
    }

    private static void drawnIsRefused() {
        Due.sentence("DRAWN. BAD: m (1 .. 20)");
        SparseChecks x = new SparseChecks();
        x.seed(9L);
        int[] bad = {0, -1, 21, LOWEST, HIGHEST};
        for (int m : bad) {
            Due.is("drawn " + m, x.drawn(m), BAD);
            Due.is("THE SEED stays", x.seed(9L), 9L);
        }
        Due.is("drawn 1", x.drawn(1), 1);
        Due.is("drawn 20", x.drawn(20), 20);
    }

    /** THE SEED so many times further on, without a long's wrapping. */
    private static long further(long seed, int times) {
        BigInteger x = BigInteger.valueOf(seed);
        for (int i = 0; i < times; i++) {
            x = x.multiply(BigInteger.valueOf(6364136223846793005L)).add(BigInteger.valueOf(1442695040888963407L));
        }
        return x.mod(BigInteger.ONE.shiftLeft(64)).longValue();
    }

    private static void drawnWraps() {
        Due.sentence("x becomes x * 6364136223846793005L + 1442695040888963407L (64 bits, wrapping)");
        long[] seeds = {0L, 1L, -1L, Long.MIN_VALUE, Long.MAX_VALUE, 1234567890123L};
        for (long seed : seeds) {
            SparseChecks x = new SparseChecks();
            x.seed(seed);
            x.drawn(1);
            Due.is("THE SEED behind one", x.seed(seed), further(seed, 1));
            x.drawn(20);
            Due.is("THE SEED behind twenty", x.seed(seed), further(seed, 20));
        }
    }

    private static void drawnGoesOn() {
        Due.sentence("DRAWN by THE SEED: m times (1 .. 20)");
        SparseChecks atOnce = Due.coded("C41c012.c123.c03.");
        SparseChecks oneByOne = Due.coded("C41c012.c123.c03.");
        atOnce.seed(-77L);
        oneByOne.seed(-77L);
        int sum = 0;
        for (int i = 0; i < 20; i++) {
            sum += oneByOne.drawn(1);
        }
        Due.is("twenty", atOnce.drawn(20), sum);
        Due.is("THE SEED", atOnce.seed(0L), oneByOne.seed(0L));
        Due.holds("some, not all", sum > 0 && sum < 20);
    }

    private static void drawnLevelsAreMinus2To5() {
        Due.sentence("v is (int) (x >>> 33): LEVEL of BIT i is (v >> 3 * i & 7) less 2: how often NEEDS is not NONE by that");
        // By OFFSET 1 a CHECK over two BITS is not solved where just one is less than 0 and their amounts are like.
        String[] codes = {"C21c01.", "C92c0123.c345.c5678.c08.", "C91c78.", "C91c08.", "C91c27.c36."};
        boolean[] met = new boolean[8];
        int below0 = 0;
        for (String code : codes) {
            long seed = Long.MIN_VALUE;
            for (int i = 0; i < 40; i++) {
                SparseChecks x = Due.coded(code);
                x.seed(seed);
                int drawn = x.drawn(1);
                seed = further(seed, 1);
                below0 += seed < 0 ? 1 : 0;
                int v = (int) (seed >>> 33);
                for (int bit = 0; bit < x.about(0); bit++) {
                    int figure = v / (1 << 3 * bit) % 8;
                    met[figure] = true;
                    x.level(bit, figure - 2);
                }
                Due.is("drawn of " + code, drawn, x.about(11) == NONE ? 0 : 1);
            }
        }
        for (int figure = 0; figure < 8; figure++) {
            Due.holds("each LEVEL was met: " + (figure - 2), met[figure]);
        }
        Due.holds("x was less than 0, too", below0 > 0 && below0 < 200);
    }

    private static void drawnChangesTheSeedAlone() {
        Due.sentence("(as LEVELS stand otherwise, nothing stays of it). (Nothing changes but THE SEED.)");
        SparseChecks x = Due.coded("C92c0123.c345.c5678.c08.", 1, -2, 3, -4, 5, -6, 7, -8, 9);
        x.begin();
        x.round(2);
        x.see(3, 3);
        long seed = x.seed(0L);
        x.seed(seed);
        String was = Due.readOut(x);
        x.drawn(20);
        x.seed(seed);
        Due.holds("nothing but THE SEED", was.equals(Due.readOut(x)));
    }

    private static void slotsAre0And1() {
        Due.sentence("SLOTS 0 .. 1. UNKNOWN (there is no such SLOT)");
        SparseChecks x = new SparseChecks();
        int[] no = {-1, 2, LOWEST, HIGHEST};
        for (int slot : no) {
            Due.is("keep " + slot, x.keep(slot), UNKNOWN);
            Due.is("again " + slot, x.again(slot), UNKNOWN);
        }
        Due.is("none was kept by that", x.again(0), LATE);
        Due.is("nor here", x.again(1), LATE);
        x.keep(0);
        x.keep(1);
        for (int slot : no) {
            Due.is("again " + slot + ", both kept", x.again(slot), UNKNOWN);
        }
    }

    private static void againIsLate() {
        Due.sentence("They are as they were kept: ROUNDS. UNKNOWN; LATE: none were kept");
        SparseChecks x = Due.coded("C20c01.", 5, -3);
        Due.is("again 0", x.again(0), LATE);
        Due.is("again 1", x.again(1), LATE);
        Due.is("ACTS stay", x.about(14), 2);
        x.keep(1);
        Due.is("again 0 still", x.again(0), LATE);
        Due.is("again 1", x.again(1), 0);
        Due.is("no ACTS", x.about(14), 0);
        x.keep(0);
        Due.is("again 0", x.again(0), 0);
    }

    private static void slotsKeepAllButActs() {
        Due.sentence("SLOTS keep LEVELS, TOTALS, MESSAGES, what CHECKS are OVER, OFFSET, ROUNDS (no ACTS when one goes on)");
        SparseChecks x = Due.coded("C91c012345678.c08.c.c.c.c8.", 31, -31, 3, -4, 5, -6, 7, -8, 9);
        x.begin();
        x.round(99);
        Due.is("keep", x.keep(0), 99);
        String[] was = Due.readOut(x).split(" ");
        for (int bit = 0; bit < 9; bit++) {
            x.level(bit, bit);
        }
        x.begin();
        x.put(0, 0);
        x.put(5, 7);
        x.grow(3, 6);
        x.offset(9);
        x.round(1);
        Due.is("ACTS are full", x.about(14), 14);
        Due.is("again", x.again(0), 99);
        String[] is = Due.readOut(x).split(" ");
        for (int i = 0; i < was.length; i++) {
            // The seventh that is read out is how many ACTS there are.
            Due.holds("read out " + i, i == 6 ? is[i].equals("0") : is[i].equals(was[i]));
        }
        Due.is("undo", x.undo(), LATE);
        Due.is("the state can be gone on from once more", x.again(0), 99);
    }

    private static void slotsKeepNoTextSeenOrSeed() {
        Due.sentence("THE TEXT, SEEN, THE SEED are not undone or kept");
        SparseChecks x = Due.coded("C20c01.");
        x.keep(0);
        x.level(0, 3);
        x.write('x');
        x.see(20, 63);
        x.seed(-4L);
        x.undo();
        Due.is("letters behind undo", x.about(16), 8);
        Due.is("SEEN behind undo", x.about(15), 1);
        x.again(0);
        Due.is("letters behind again", x.about(16), 8);
        Due.is("fault", x.fault(), 7);
        Due.is("SEEN behind again", x.about(15), 1);
        Due.is("THE SEED behind again", x.seed(0L), -4L);
    }

    private static void slotsAreApart() {
        Due.sentence("They are kept: ROUNDS");
        SparseChecks x = Due.coded("C20c0.", 5);
        x.begin();
        Due.is("keep 0", x.keep(0), 0);
        x.round(1);
        Due.is("keep 1", x.keep(1), 1);
        Due.is("again 0", x.again(0), 0);
        Due.is("TOTAL", x.bit(0, 1), 105);
        x.round(3);
        // What goes on does not change what was kept.
        Due.is("again 0", x.again(0), 0);
        Due.is("TOTAL", x.bit(0, 1), 105);
        Due.is("again 1", x.again(1), 1);
        Due.is("TOTAL", x.bit(0, 1), 136);
        Due.is("kept over", x.keep(0), 1);
        x.begin();
        Due.is("again 0", x.again(0), 1);
    }

    private static void keepLeavesActs() {
        Due.sentence("They are kept (no ACTS when one goes on)");
        SparseChecks x = new SparseChecks();
        x.level(0, 1);
        x.level(0, 2);
        x.keep(0);
        Due.is("ACTS", x.about(14), 2);
        Due.is("undo", x.undo(), 1);
        Due.is("LEVEL", x.bit(0, 0), 101);
        x.again(0);
        Due.is("LEVEL as kept", x.bit(0, 0), 102);
        Due.is("undo", x.undo(), LATE);
        x.level(0, 3);
        Due.is("undo what came behind", x.undo(), 0);
        Due.is("LEVEL as kept", x.bit(0, 0), 102);
    }
}
