/** Promises 10 to 16: ACTS, what a ROUND does, and that all is undone. */
public final class ActsTest {
    private static final int LOWEST = Integer.MIN_VALUE;
    private static final int HIGHEST = Integer.MAX_VALUE;

    public static void main(String[] args) {
        promise10();
        promise11();
        promise12();
        promise12ByHand();
        promise12Held();
        promise13();
        promise14();
        promise14Ways();
        promise15();
        promise16();
        promise16Forgets();
        refusedChangesNothing();
        Due.end();
    }

    private static void promise10() {
        SparseChecks x = Due.coded("C30c01.");
        Due.is("level", x.level(0, -31), 100);
        Due.is("level anew", x.level(0, 31), 69);
        Due.is("level again", x.level(0, 31), 131);
        Due.is("ACTS", x.about(14), 3);
        Due.is("it stands", x.bit(0, 0), 131);
        Due.is("TOTAL does not feel it", x.bit(0, 1), 100);
        Due.is("level 32", x.level(0, 32), SparseChecks.BAD);
        Due.is("level -32", x.level(0, -32), SparseChecks.BAD);
        Due.is("level lowest", x.level(2, LOWEST), SparseChecks.BAD);
        Due.is("level highest", x.level(2, HIGHEST), SparseChecks.BAD);
        Due.is("level of bit 3", x.level(3, 0), SparseChecks.UNKNOWN);
        Due.is("level of bit -1", x.level(-1, 99), SparseChecks.UNKNOWN);
        Due.is("level of bit 9, bad", x.level(9, 99), SparseChecks.UNKNOWN);
        Due.is("ACTS still", x.about(14), 3);
    }

    private static void promise11() {
        SparseChecks x = Due.coded("C30c01.c12.", 4, -2, -7);
        Due.is("WORD ahead", x.about(4), 0);
        Due.is("begin", x.begin(), 6);
        Due.is("TOTAL", x.bit(2, 1), 93);
        x.round(2);
        Due.is("ROUNDS", x.about(3), 2);
        x.level(0, -1);
        Due.is("begin anew", x.begin(), 7);
        Due.is("ROUNDS anew", x.about(3), 0);
        for (int bit = 0; bit < 2; bit++) {
            Due.is("MESSAGE anew", x.message(0, bit), 100);
            Due.is("MESSAGE anew", x.message(1, bit + 1), 100);
        }
        Due.is("LEVEL stays", x.bit(1, 0), 98);
        Due.is("ACTS", x.about(14), 7);
    }

    private static void promise12() {
        SparseChecks x = Due.coded("C30c01.c12.c0.", 4, -2, 7);
        Due.is("round 0", x.round(0), SparseChecks.BAD);
        Due.is("round -1", x.round(-1), SparseChecks.BAD);
        Due.is("round 100", x.round(100), SparseChecks.BAD);
        Due.is("round lowest", x.round(LOWEST), SparseChecks.BAD);
        Due.is("round highest", x.round(HIGHEST), SparseChecks.BAD);
        Due.is("ROUNDS", x.about(3), 0);
        Due.is("ACTS", x.about(14), 3);
        x.round(99);
        Due.is("ROUNDS", x.about(3), 99);
        x.round(1);
        Due.is("ROUNDS", x.about(3), 100);
        Due.is("ACTS, one for all ROUNDS of a call", x.about(14), 5);
        SparseChecks none = new SparseChecks();
        Due.is("round without checks", none.round(5), 0);
        Due.is("its ROUNDS", none.about(3), 5);
        SparseChecks open = Due.coded("C29c0.c01.", 0, -30);
        open.begin();
        // Bit 0 comes to 31, bit 1 is held less than 0: one of two CHECKS is OPEN.
        Due.is("open ones", open.round(1), 1);
        Due.is("which", open.about(5), 2);
    }

    private static void totals(String when, SparseChecks x, int... want) {
        for (int bit = 0; bit < want.length; bit++) {
            Due.is(when + ": TOTAL of " + bit, x.bit(bit, 1) - 100, want[bit]);
        }
    }

    private static void messages(String when, SparseChecks x, int check, int... want) {
        int next = 0;
        for (int bit = 0; bit < x.about(0); bit++) {
            if ((x.check(check) >> bit & 1) == 1) {
                Due.is(when + ": MESSAGE of " + check + " to " + bit, x.message(check, bit) - 100, want[next]);
                next++;
            }
        }
    }

    private static void promise12ByHand() {
        SparseChecks x = Due.coded("C30c01.c12.", 4, -2, 7);
        x.begin();
        x.round(1);
        // Check 0: Q 4, -2. Check 1, by what check 0 left: Q 2, 7.
        messages("round 1", x, 0, -2, 4);
        messages("round 1", x, 1, 7, 2);
        totals("round 1", x, 2, 9, 9);
        x.round(1);
        // Check 0: Q 4, 5. Check 1: Q 2 (9 less 7), 7.
        messages("round 2", x, 0, 5, 4);
        messages("round 2", x, 1, 7, 2);
        totals("round 2", x, 9, 9 + 4 - 4, 9);

        SparseChecks three = Due.coded("C42c0123.", -6, -5, 9, -9);
        three.begin();
        three.round(1);
        // The least of the others is 5, but for bit 1, where it is 6; signs of the others: 2, 2, 3, 2.
        messages("least", three, 0, 3, 4, -3, 3);
        totals("least", three, -3, -1, 6, -6);

        SparseChecks like = Due.coded("C30c012.", 5, -5, 8);
        like.begin();
        like.round(1);
        messages("two of one amount", like, 0, -5, 5, -5);

        SparseChecks zero = Due.coded("C30c012.", 0, -5, 8);
        zero.begin();
        zero.round(1);
        // Q 0 is no sign; an amount of 0 has none.
        messages("Q 0", zero, 0, -5, 0, 0);
        totals("Q 0", zero, -5, -5, 8);

        SparseChecks one = Due.coded("C29c0.c.", -20, -4);
        one.begin();
        one.round(1);
        messages("alone", one, 0, 31);
        totals("alone", one, 11, -4);
        one.round(1);
        totals("alone, once more", one, 11, -4);

        SparseChecks far = Due.coded("C24c01.", 3, 4);
        far.begin();
        far.round(1);
        messages("less than the OFFSET", far, 0, 0, 0);
    }

    private static void promise12Held() {
        SparseChecks above = Due.coded("C20c0.c0.c0.c0.", 31);
        above.begin();
        above.round(1);
        Due.is("held to 99", above.bit(0, 1), 199);
        above.round(1);
        Due.is("held to 99 still", above.bit(0, 1), 199);
        SparseChecks below = Due.coded("C20c01.c01.c01.c01.", -31, -31);
        below.begin();
        below.round(1);
        Due.is("held to -99", below.bit(0, 1), 1);
        Due.is("held to -31", below.message(3, 1), 69);
        // What a PUT leaves in a TOTAL is felt: Q is 62 by then, not 31.
        SparseChecks left = Due.coded("C20c0.", 31);
        left.begin();
        left.round(1);
        left.put(0, 0);
        left.put(0, 0);
        left.round(1);
        Due.is("62 and 31", left.bit(0, 1), 193);
    }

    private static void promise13() {
        SparseChecks x = Due.coded("C30c01.c12.", 4, -2, 7);
        x.begin();
        x.round(1);
        Due.is("put out", x.put(0, 1), 0);
        Due.is("check 0", x.check(0), 1);
        Due.is("no MESSAGE", x.message(0, 1), SparseChecks.NONE);
        Due.is("TOTAL stays", x.bit(1, 1), 109);
        Due.is("put back", x.put(0, 1), 1);
        Due.is("check 0", x.check(0), 3);
        Due.is("MESSAGE is 0", x.message(0, 1), 100);
        Due.is("TOTAL stays", x.bit(1, 1), 109);
        Due.is("the other's MESSAGE stays", x.message(1, 1), 107);
        Due.is("put in", x.put(1, 0), 1);
        Due.is("over bit 0", x.bit(0, 2), 3);
        Due.is("ACTS", x.about(14), 8);
        Due.is("put of check 2", x.put(2, 0), SparseChecks.UNKNOWN);
        Due.is("put of check -1", x.put(-1, 0), SparseChecks.UNKNOWN);
        Due.is("put of bit 3", x.put(0, 3), SparseChecks.UNKNOWN);
        Due.is("put of bit -1", x.put(0, -1), SparseChecks.UNKNOWN);
        Due.is("put of far ones", x.put(HIGHEST, LOWEST), SparseChecks.UNKNOWN);
        Due.is("ACTS still", x.about(14), 8);
    }

    private static void promise14() {
        SparseChecks x = Due.coded("C30c01.c12.c.", 4, -2, 7);
        x.begin();
        x.round(1);
        Due.is("grow to 1", x.grow(0, 1), 0);
        Due.is("it is an ACT", x.about(14), 6);
        Due.is("grow to 2", x.grow(0, 2), 1);
        Due.is("check 2, to which no way led", x.check(2), 1);
        Due.is("its MESSAGE", x.message(2, 0), 100);
        Due.is("TOTAL stays", x.bit(0, 1), 102);
        Due.is("MESSAGE stays", x.message(0, 0), 98);
        Due.is("grow to 3", x.grow(0, 3), 1);
        Due.is("check 1", x.check(1), 7);
        Due.is("grow less", x.grow(0, 1), 0);
        Due.is("over bit 0", x.bit(0, 2), 7);
        Due.is("ACTS", x.about(14), 9);
        Due.is("grow to 0", x.grow(0, 0), SparseChecks.BAD);
        Due.is("grow to 4", x.grow(0, 4), SparseChecks.BAD);
        Due.is("grow lowest", x.grow(0, LOWEST), SparseChecks.BAD);
        Due.is("grow highest", x.grow(0, HIGHEST), SparseChecks.BAD);
        Due.is("grow bit 3", x.grow(3, 1), SparseChecks.UNKNOWN);
        Due.is("grow bit -1, bad", x.grow(-1, 0), SparseChecks.UNKNOWN);
        Due.is("ACTS still", x.about(14), 9);
        Due.is("grow without checks", new SparseChecks().grow(1, 1), SparseChecks.BAD);
    }

    private static void grown(String code, int bit, int d, int want) {
        SparseChecks x = Due.coded(code);
        int had = Integer.bitCount(x.bit(bit, 2));
        Due.is(code + " grows by", x.grow(bit, d), Math.max(0, d - had));
        Due.is(code + " grown " + bit + " to " + d, x.bit(bit, 2), want);
    }

    private static void promise14Ways() {
        // Of like ones the least; each step goes by what is OVER by then.
        grown("C30c.c.c.", 1, 2, 3);
        // No way leads to checks 1 and 2: the one over fewer bits.
        grown("C50c01.c234.c34.", 0, 2, 5);
        // No way is ahead of fewest bits.
        grown("C50c01.c1.c234.", 0, 2, 5);
        // Ways of 1, 3, 5, 7: the longest.
        grown("C50c01.c12.c23.c34.", 0, 2, 9);
        // Then check 3 (and bit 3, so check 2) is near: checks 1, 2 are both 3 away.
        grown("C50c01.c12.c23.c34.", 0, 3, 11);
        grown("C50c01.c124.c23.c34.", 0, 3, 13);
        // Longest is ahead of fewest.
        grown("C60c01.c12.c1.c2345.", 0, 2, 9);
        // Of like long ones the one over fewest bits, of like ones the least.
        grown("C60c01.c125.c13.c14.", 0, 2, 5);
        grown("C60c01.c12.c13.c14.", 0, 2, 3);
        // A check over many bits is one, too.
        grown("C90c0.c12345678.", 0, 2, 3);
        // A bit in no check: all are out of reach, the one with the fewest bits.
        grown("C40c01.c1.c12.", 3, 1, 2);
        grown("C20c01.c01.c01.", 0, 3, 7);
    }

    private static void promise15() {
        SparseChecks x = Due.coded("C23c01.", 9, -9);
        x.begin();
        x.round(1);
        int message = x.message(0, 0);
        int total = x.bit(0, 1);
        Due.is("offset 9", x.offset(9), 3);
        Due.is("offset 0", x.offset(0), 9);
        Due.is("offset 0 again", x.offset(0), 0);
        Due.is("it stands", x.about(2), 0);
        Due.is("MESSAGE stays", x.message(0, 0), message);
        Due.is("TOTAL stays", x.bit(0, 1), total);
        Due.is("ROUNDS stay", x.about(3), 1);
        Due.is("ACTS", x.about(14), 7);
        int[] bad = {-1, 10, LOWEST, HIGHEST};
        for (int v : bad) {
            Due.is("offset " + v, x.offset(v), SparseChecks.BAD);
        }
        Due.is("ACTS still", x.about(14), 7);
        Due.is("OFFSET still", x.about(2), 0);
    }

    private static void promise16() {
        SparseChecks x = Due.coded("C41c01.c123.c.", 9, -9, 4);
        String[] states = new String[8];
        for (int act = 0; act < 7; act++) {
            states[act] = Due.readOut(x);
            switch (act) {
                case 0 -> x.begin();
                case 1 -> x.round(3);
                case 2 -> x.put(1, 1);
                case 3 -> x.grow(3, 3);
                case 4 -> x.offset(6);
                case 5 -> x.level(2, -30);
                default -> x.begin();
            }
        }
        for (int act = 6; act >= 0; act--) {
            Due.is("undo", x.undo(), 3 + act);
            Due.holds("undone: " + act, states[act].equals(Due.readOut(x)));
        }
        for (int left = 2; left >= 0; left--) {
            Due.is("undo a level", x.undo(), left);
        }
        Due.is("no LEVEL", x.bit(0, 0), 100);
        Due.is("undo nothing", x.undo(), SparseChecks.LATE);
        x.level(0, 3);
        x.write('x');
        x.see(3, 3);
        x.seed(8L);
        x.drawn(1);
        long drawn = x.seed(8L);
        x.seed(drawn);
        Due.is("undo", x.undo(), 0);
        Due.is("THE TEXT is not undone", x.about(16), 15);
        Due.is("SEEN is not undone", x.about(15), 1);
        Due.is("THE SEED is not undone", x.seed(0L), drawn);
    }

    private static void promise16Forgets() {
        SparseChecks x = Due.coded("C20c01.");
        for (int v = 1; v <= 31; v++) {
            Due.is("level", x.level(0, v), 99 + v);
            Due.is("ACTS", x.about(14), Math.min(v, 14));
        }
        for (int left = 13; left >= 0; left--) {
            Due.is("undo", x.undo(), left);
            Due.is("LEVEL", x.bit(0, 0), 117 + left);
        }
        Due.is("undo what is forgotten", x.undo(), SparseChecks.LATE);
        Due.is("LEVEL", x.bit(0, 0), 117);
        x.level(1, 5);
        Due.is("undo the one behind", x.undo(), 0);
        Due.is("LEVEL of 1", x.bit(1, 0), 100);
    }

    private static void refusedChangesNothing() {
        SparseChecks x = Due.coded("C41c01.c123.", 9, -9, 4);
        x.begin();
        x.round(2);
        x.keep(0);
        for (int v = 0; v < 6; v++) {
            x.see(v, v);
        }
        String was = Due.readOut(x);
        x.write(256);
        x.about(99);
        x.bit(9, 0);
        x.check(2);
        x.message(0, 4);
        x.level(4, 0);
        x.level(0, 32);
        x.round(0);
        x.put(2, 0);
        x.put(0, 4);
        x.grow(4, 1);
        x.grow(0, 3);
        x.offset(10);
        x.traps(0, 0, 0);
        x.same(11);
        x.judge(0, 0L);
        x.see(1, 1);
        x.see(21, 1);
        x.share(2, true);
        x.chance(0, 0, true);
        x.drawn(21);
        x.keep(2);
        x.again(2);
        x.again(1);
        Due.holds("refused calls change nothing", was.equals(Due.readOut(x)));
    }
}
