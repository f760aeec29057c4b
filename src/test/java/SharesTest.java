/** Promises 23 to 28: SHARE, CHANCE, THE SEED, DRAWN, and SLOTS. */
public final class SharesTest {
    private static final int LOWEST = Integer.MIN_VALUE;
    private static final int HIGHEST = Integer.MAX_VALUE;

    public static void main(String[] args) {
        promise23();
        promise24();
        promise24Bad();
        promise25();
        promise26();
        promise27And28();
        promise28GoesOn();
        Due.end();
    }

    private static void share(String code, int check, int above, int below) {
        SparseChecks x = Due.coded(code);
        Due.is("share of " + check + " in " + code, x.share(check, true), above);
        Due.is("share of " + check + " in " + code + ", below", x.share(check, false), below);
    }

    private static void promise23() {
        share("C20c01.", 0, 1, 1);
        share("C20c.", 0, 0, 1);
        share("C20c01.c.", 1, 0, 1);
        share("C20c01.c01.", 0, 1, 2);
        share("C20c01.c01.", 1, 1, 2);
        share("C20c01.c01.c01.", 2, 1, 3);
        // Three of which any two make the third: it brings nothing only when it comes last.
        share("C30c01.c12.c02.", 1, 2, 3);
        share("C30c01.c12.c02.c012.", 1, 2, 3);
        share("C30c01.c12.c02.c012.", 3, 1, 1);
        // It brings nothing behind its like, nor behind both others; all come to RANK 2.
        share("C30c01.c01.c12.c02.", 0, 5, 12);
        share("C30c01.c01.c12.c02.", 2, 7, 12);
        share("C90c0.c0.c0.c0.c0.c0.", 5, 1, 6);
        SparseChecks x = Due.coded("C20c01.c01.");
        int[] no = {-1, 2, 6, LOWEST, HIGHEST};
        for (int check : no) {
            Due.is("share of " + check, x.share(check, true), SparseChecks.UNKNOWN);
            Due.is("share of " + check, x.share(check, false), SparseChecks.UNKNOWN);
        }
    }

    private static void chance(String code, int v, int x, int above, int below) {
        SparseChecks of = Due.coded(code, 1, -2);
        of.begin();
        of.round(1);
        String was = Due.readOut(of);
        Due.is("chance " + code + " " + v + " " + x, of.chance(v, x, true), above);
        Due.is("chance " + code + " " + v + " " + x + ", below", of.chance(v, x, false), below);
        Due.holds("nothing is changed", was.equals(Due.readOut(of)));
    }

    private static void promise24() {
        // Without checks nothing is turned back.
        chance("C20", 5, 3, 49, 100);
        chance("C20", 31, 0, 1, 1);
        chance("C20", 1, 10, 0, 1);
        chance("C90", 1, 1, 387420489, 1000000000);
        chance("C90", 1, 5, 1, 512);
        // A check over one bit turns it back, whatever the OFFSET is; 31 turns -31 to 0, which is not less.
        chance("C29c0.c1.", 31, 10, 1, 1);
        chance("C29c0.", 31, 3, 7, 10);
        // One of two turned: both come to 0. Both turned: that is a word.
        chance("C20c01.", 7, 2, 24, 25);
        chance("C27c01.", 7, 2, 16, 25);
    }

    private static void promise24Bad() {
        SparseChecks x = Due.coded("C20c01.");
        int[] badV = {0, -1, 32, LOWEST, HIGHEST};
        for (int v : badV) {
            Due.is("chance v " + v, x.chance(v, 1, true), SparseChecks.BAD);
        }
        int[] badX = {-1, 11, LOWEST, HIGHEST};
        for (int tenths : badX) {
            Due.is("chance x " + tenths, x.chance(1, tenths, false), SparseChecks.BAD);
        }
    }

    private static void promise25() {
        SparseChecks x = new SparseChecks();
        Due.is("seed at first", x.seed(Long.MIN_VALUE), 0L);
        Due.is("seed", x.seed(Long.MAX_VALUE), Long.MIN_VALUE);
        Due.is("seed", x.seed(-5L), Long.MAX_VALUE);
        Due.is("seed", x.seed(0L), -5L);
        Due.is("no ACTS", x.about(14), 0);
    }

    private static void promise26() {
        SparseChecks x = Due.coded("C20c01.c0.", 4, 5);
        x.begin();
        int[] bad = {0, -1, 21, LOWEST, HIGHEST};
        for (int m : bad) {
            Due.is("drawn " + m, x.drawn(m), SparseChecks.BAD);
        }
        Due.is("seed stays", x.seed(11L), 0L);
        x.drawn(3);
        long seed = 11L;
        for (int i = 0; i < 3; i++) {
            seed = seed * 6364136223846793005L + 1442695040888963407L;
        }
        Due.is("seed goes on", x.seed(seed), seed);
        Due.is("LEVEL stays", x.bit(0, 0), 104);
        Due.is("TOTAL stays", x.bit(1, 1), 105);
        Due.is("ACTS stay", x.about(14), 3);
        drawnOneByOne("C33c01.c12.");
        drawnOneByOne("C98c012345678.c0.c13.c2456.");
        SparseChecks none = new SparseChecks();
        Due.is("without checks", none.drawn(20), 20);
        Due.is("one", none.drawn(1), 1);
    }

    /** DRAWN once is what NEEDS says when the LEVELS are told. */
    private static void drawnOneByOne(String code) {
        long seed = 5L;
        int solved = 0;
        for (int i = 0; i < 20; i++) {
            long next = seed * 6364136223846793005L + 1442695040888963407L;
            int v = (int) (next >>> 33);
            SparseChecks x = Due.coded(code);
            x.seed(seed);
            int drawn = x.drawn(1);
            Due.is("the seed behind it", x.seed(0L), next);
            for (int bit = 0; bit < x.about(0); bit++) {
                x.level(bit, (v >> 3 * bit & 7) - 2);
            }
            int due = x.about(11) == SparseChecks.NONE ? 0 : 1;
            Due.is("drawn of " + code, drawn, due);
            solved += due;
            seed = next;
        }
        SparseChecks all = Due.coded(code);
        all.seed(5L);
        Due.is("drawn 20 of " + code, all.drawn(20), solved);
        Due.is("the seed behind 20", all.seed(0L), seed);
        Due.holds("some, not all of " + code, solved > 0 && solved < 20);
    }

    private static void promise27And28() {
        SparseChecks x = Due.coded("C32c01.c12.", 4, -2, 7);
        int[] no = {-1, 2, LOWEST, HIGHEST};
        for (int slot : no) {
            Due.is("keep " + slot, x.keep(slot), SparseChecks.UNKNOWN);
            Due.is("again " + slot, x.again(slot), SparseChecks.UNKNOWN);
        }
        Due.is("again, none kept", x.again(0), SparseChecks.LATE);
        Due.is("ACTS behind LATE", x.about(14), 3);
        Due.is("keep 0", x.keep(0), 0);
        Due.is("no ACT", x.about(14), 3);
        x.begin();
        x.round(5);
        Due.is("keep 1", x.keep(1), 5);
        String rounds = kept(x);
        x.put(0, 2);
        x.offset(9);
        x.level(1, 30);
        x.begin();
        x.round(2);
        Due.is("again 1", x.again(1), 5);
        Due.holds("as it was", rounds.equals(kept(x)));
        Due.is("no ACTS", x.about(14), 0);
        Due.is("nothing to undo", x.undo(), SparseChecks.LATE);
        Due.is("again 0", x.again(0), 0);
        Due.is("LEVEL", x.bit(1, 0), 98);
        Due.is("TOTAL", x.bit(1, 1), 100);
        Due.is("again 1 once more", x.again(1), 5);
        Due.holds("as it was once more", rounds.equals(kept(x)));
    }

    /** What a SLOT keeps, without ACTS, THE TEXT, SEEN, THE SEED. */
    private static String kept(SparseChecks x) {
        StringBuilder all = new StringBuilder();
        all.append(x.about(2)).append(' ').append(x.about(3)).append(' ');
        for (int bit = 0; bit < x.about(0); bit++) {
            all.append(x.bit(bit, 0)).append(' ').append(x.bit(bit, 1)).append(' ');
            for (int check = 0; check < x.about(1); check++) {
                all.append(x.message(check, bit)).append(' ');
            }
        }
        return all.toString();
    }

    private static void promise28GoesOn() {
        SparseChecks x = Due.coded("C20c01.", 5, -3);
        x.begin();
        x.keep(0);
        x.round(1);
        x.keep(1);
        x.see(4, 4);
        x.seed(9L);
        x.write('c');
        x.again(0);
        Due.is("THE TEXT is not kept", x.about(16), 8);
        Due.is("SEEN is not kept", x.about(15), 1);
        Due.is("THE SEED is not kept", x.seed(0L), 9L);
        x.round(1);
        Due.is("goes on", x.bit(0, 1), 102);
        Due.is("what is gone on from stays kept", x.again(0), 0);
        Due.is("TOTAL", x.bit(0, 1), 105);
        x.level(0, 9);
        Due.is("undo behind again", x.undo(), 0);
        Due.is("LEVEL", x.bit(0, 0), 105);
        Due.is("undo no further", x.undo(), SparseChecks.LATE);
        x.put(0, 0);
        x.keep(1);
        x.again(0);
        Due.is("kept over what was kept", x.again(1), 0);
        Due.is("check", x.check(0), 2);
        x.again(0);
        Due.is("undo does not bring ACTS back", x.undo(), SparseChecks.LATE);
    }
}
