import java.util.function.Consumer;

/** The edges that the document names for ROUNDS, BEGUN, PUT, GROWN and the row of ACTS (promises 10 to 16). */
public final class EdgesActsTest {
    private static final int UNKNOWN = SparseChecks.UNKNOWN;
    private static final int BAD = SparseChecks.BAD;
    private static final int LATE = SparseChecks.LATE;
    private static final int NONE = SparseChecks.NONE;
    private static final int LOWEST = Integer.MIN_VALUE;
    private static final int HIGHEST = Integer.MAX_VALUE;

    public static void main(String[] args) {
        levelIsHeldToItsBounds();
        levelIsFeltWhenBegun();
        begunWithNothingTold();
        begunLeavesMessagesZero();
        wordIsBelowZero();
        openIsOdd();
        roundsAre1To99();
        roundsAreCounted();
        roundsAreDoneOneByOne();
        roundWithoutChecks();
        roundGoesCheckByCheck();
        leastWithoutOthers();
        leastLessOffset();
        leastAbove31();
        signOfAnOddNumber();
        zeroIsNoSign();
        totalIsHeldAbove();
        totalIsHeldBelow();
        qBeyondTheTotal();
        putBothWays();
        putLeavesTotal();
        putIsRefused();
        growIsRefused();
        growToAllChecks();
        growWhereEnoughAreOver();
        growGoesWhereNoWayLeads();
        growGoesByTheLongestShortestWay();
        growGoesByFewestThenLeast();
        growGoesStepByStep();
        offsetIs0To9();
        offsetLeavesTheRest();
        undoIsLate();
        actsThatChangeNothing();
        actsAreNeverMoreThan14();
        actsGoRoundAndRound();
        undoGivesAllBack();
        Due.end();
    }

    private static void levelIsHeldToItsBounds() {
        Due.sentence("A LEVEL is v: what it was, and 100. UNKNOWN; BAD: v (-31 .. 31)");
        SparseChecks x = Due.coded("C90");
        Due.is("level -31", x.level(8, -31), 100);
        Due.is("level 31", x.level(8, 31), 69);
        Due.is("level 0", x.level(8, 0), 131);
        Due.is("ACTS", x.about(14), 3);
        int[] bad = {-32, 32, LOWEST, HIGHEST};
        int[] no = {-1, 9, LOWEST, HIGHEST};
        for (int v : bad) {
            Due.is("level " + v, x.level(8, v), BAD);
            for (int bit : no) {
                Due.is("UNKNOWN ahead of BAD", x.level(bit, v), UNKNOWN);
            }
        }
        for (int bit : no) {
            Due.is("level of " + bit, x.level(bit, 0), UNKNOWN);
        }
        Due.is("ACTS still", x.about(14), 3);
        Due.is("LEVEL still", x.bit(8, 0), 100);
        Due.is("at first there is no third BIT", new SparseChecks().level(2, 0), UNKNOWN);
    }

    private static void levelIsFeltWhenBegun() {
        Due.sentence("A LEVEL told is felt when it is BEGUN");
        SparseChecks x = Due.coded("C20c0.", -9, -9);
        Due.is("THE WORD", x.about(4), 0);
        x.round(1);
        // By TOTAL 0, not by LEVEL -9.
        Due.is("TOTAL", x.bit(0, 1), 131);
        Due.is("BEGUN", x.begin(), 3);
        Due.is("TOTAL", x.bit(0, 1), 91);
    }

    private static void begunWithNothingTold() {
        Due.sentence("BEGUN: THE WORD");
        SparseChecks x = new SparseChecks();
        Due.is("begin", x.begin(), 0);
        Due.is("it is an ACT", x.about(14), 1);
        SparseChecks all = Due.coded("C90", -1, -1, -1, -1, -1, -1, -1, -1, -1);
        Due.is("all BITS", all.begin(), 511);
    }

    private static void begunLeavesMessagesZero() {
        Due.sentence("BEGUN: each TOTAL is its LEVEL, all MESSAGES, ROUNDS are 0");
        SparseChecks x = Due.coded("C90c012345678.c08.", 31, 30, 29, 28, 27, 26, 25, 24, -31);
        x.begin();
        x.round(99);
        x.begin();
        for (int bit = 0; bit < 9; bit++) {
            Due.is("TOTAL is LEVEL", x.bit(bit, 1), x.bit(bit, 0));
            Due.is("MESSAGE", x.message(0, bit), 100);
        }
        Due.is("MESSAGE", x.message(1, 8), 100);
        Due.is("ROUNDS", x.about(3), 0);
    }

    private static void wordIsBelowZero() {
        Due.sentence("THE WORD: BITS whose TOTAL is less than 0, as bits");
        SparseChecks x = Due.coded("C40", -1, 0, 1, -31);
        Due.is("begin", x.begin(), 9);
        Due.is("THE WORD", x.about(4), 9);
    }

    private static void openIsOdd() {
        Due.sentence("OPEN: CHECKS (bits) that are OVER an odd number of BITS of THE WORD");
        SparseChecks x = Due.coded("C50c.c0.c01.c012.c34.c0123.", -1, -1, -1);
        x.begin();
        // Of THE WORD: 0, 1, 2, 3, 0, 3.
        Due.is("OPEN", x.about(5), 2 + 8 + 32);
        Due.is("SOLVED", x.about(6), 0);
        SparseChecks empty = Due.coded("C20c.", -1, -1);
        empty.begin();
        Due.is("a CHECK over none is never OPEN", empty.about(5), 0);
    }

    private static void roundsAre1To99() {
        Due.sentence("ROUNDS: how many CHECKS are OPEN then. BAD: n (1 .. 99)");
        SparseChecks x = Due.coded("C20c01.", 5, -3);
        x.begin();
        int[] bad = {0, -1, 100, LOWEST, HIGHEST};
        for (int n : bad) {
            Due.is("round " + n, x.round(n), BAD);
            Due.is("ROUNDS", x.about(3), 0);
            Due.is("ACTS", x.about(14), 3);
            Due.is("THE WORD", x.about(4), 2);
        }
        Due.is("round 1", x.round(1), 0);
        Due.is("ROUNDS", x.about(3), 1);
        Due.is("round 99", x.round(99), 0);
        Due.is("ROUNDS", x.about(3), 100);
        SparseChecks open = Due.coded("C29c01.c01.c01.c01.c01.c01.", 1, -1);
        open.begin();
        Due.is("all six are OPEN", open.round(1), 6);
    }

    private static void roundsAreCounted() {
        Due.sentence("Then ROUNDS are one more. ROUNDS (how many there were)");
        SparseChecks x = Due.coded("C20c01.", 5, -3);
        for (int i = 1; i <= 200; i++) {
            x.round(99);
            Due.is("ROUNDS", x.about(3), 99 * i);
        }
        x.keep(0);
        x.begin();
        Due.is("ROUNDS anew", x.about(3), 0);
        Due.is("ROUNDS as kept", x.again(0), 19800);
    }

    private static void roundsAreDoneOneByOne() {
        Due.sentence("ROUNDS: n of them");
        String[] codes = {"C40c013.c23.c.c023.", "C40c01.c013.c13.c0123.c13.c023.", "C42c012.c123."};
        for (String code : codes) {
            SparseChecks atOnce = Due.coded(code, -22, -20, 30, -15);
            SparseChecks oneByOne = Due.coded(code, -22, -20, 30, -15);
            atOnce.begin();
            oneByOne.begin();
            int open = 0;
            for (int i = 0; i < 99; i++) {
                open = oneByOne.round(1);
            }
            Due.is("as many are OPEN", atOnce.round(99), open);
            Due.is("as many ROUNDS", atOnce.about(3), oneByOne.about(3));
            for (int bit = 0; bit < 4; bit++) {
                Due.is("TOTAL", atOnce.bit(bit, 1), oneByOne.bit(bit, 1));
                Due.is("MESSAGE of 0", atOnce.message(0, bit), oneByOne.message(0, bit));
                Due.is("MESSAGE of 1", atOnce.message(1, bit), oneByOne.message(1, bit));
            }
        }
    }

    private static void roundWithoutChecks() {
        Due.sentence("A ROUND: CHECK by CHECK (there are none; or they are over none)");
        SparseChecks none = new SparseChecks();
        none.level(0, -5);
        none.begin();
        Due.is("no CHECKS", none.round(99), 0);
        Due.is("ROUNDS", none.about(3), 99);
        Due.is("TOTAL", none.bit(0, 1), 95);
        SparseChecks over = Due.coded("C20c.c.", -5);
        over.begin();
        Due.is("over none", over.round(1), 0);
        Due.is("ROUNDS", over.about(3), 1);
        Due.is("TOTAL", over.bit(0, 1), 95);
    }

    private static void roundGoesCheckByCheck() {
        Due.sentence("CHECK by CHECK, 0 first. In a ROUND a later CHECK goes by TOTALS that those ahead of it left");
        SparseChecks x = Due.coded("C30c01.c12.", 4, -2, 7);
        x.begin();
        x.round(1);
        // Check 0 (Q 4, -2) leaves BIT 1 at 2; by -2 the MESSAGE to BIT 2 would be -2.
        Due.is("MESSAGE to BIT 2", x.message(1, 2), 102);
        Due.is("TOTAL of BIT 2", x.bit(2, 1), 109);
        SparseChecks turned = Due.coded("C30c12.c01.", 4, -2, 7);
        turned.begin();
        turned.round(1);
        // Here the CHECK over 1 and 2 goes first: by -2.
        Due.is("MESSAGE to BIT 2", turned.message(0, 2), 98);
        Due.is("TOTAL of BIT 2", turned.bit(2, 1), 105);
        Due.is("MESSAGE to BIT 0", turned.message(1, 0), 105);
    }

    private static void leastWithoutOthers() {
        Due.sentence("(without others: 99). A CHECK OVER one BIT alone has the MESSAGE 31 to it where OFFSET is 0 .. 9");
        for (int v = 0; v <= 9; v++) {
            SparseChecks x = Due.coded("C2" + v + "c0.", -31, -31);
            x.begin();
            x.round(1);
            Due.is("MESSAGE", x.message(0, 0), 131);
            Due.is("TOTAL", x.bit(0, 1), 100);
            Due.is("THE WORD", x.about(4), 2);
        }
    }

    private static void leastLessOffset() {
        Due.sentence("its MESSAGE becomes LEAST less OFFSET, held to 0 .. 31. A MESSAGE of amount 0 has no sign");
        int[] levels = {0, 1, 8, 9, 10, 30, 31};
        for (int least : levels) {
            for (int v = 0; v <= 9; v++) {
                SparseChecks x = Due.coded("C2" + v + "c01.", least, -least);
                x.begin();
                x.round(1);
                int amount = Math.max(0, least - v);
                Due.is("MESSAGE to BIT 0 by " + least + " less " + v, x.message(0, 0), 100 - amount);
                Due.is("MESSAGE to BIT 1 by " + least + " less " + v, x.message(0, 1), 100 + amount);
                Due.is("TOTAL of BIT 0", x.bit(0, 1), 100 + least - amount);
            }
        }
    }

    /** Two BITS whose Q is 31 more than their LEVEL, by a MESSAGE that a PUT left in their TOTALS. */
    private static SparseChecks left(int first, int second, int offset) {
        SparseChecks x = Due.coded("C20c0.c1.c.", first, second);
        x.begin();
        x.round(1);
        x.put(0, 0);
        x.put(1, 1);
        x.put(2, 0);
        x.put(2, 1);
        x.offset(offset);
        x.round(1);
        return x;
    }

    private static void leastAbove31() {
        Due.sentence("LEAST less OFFSET, held to 0 .. 31");
        Due.is("31", left(0, 31, 0).message(2, 1), 131);
        Due.is("32", left(1, 31, 0).message(2, 1), 131);
        Due.is("32 less 1", left(1, 31, 1).message(2, 1), 131);
        Due.is("32 less 2", left(1, 31, 2).message(2, 1), 130);
        Due.is("62 less 9", left(31, 31, 9).message(2, 1), 131);
        Due.is("40 less 9", left(9, 31, 9).message(2, 1), 131);
        Due.is("39 less 9", left(8, 31, 9).message(2, 1), 130);
    }

    private static void signOfAnOddNumber() {
        Due.sentence("with the sign less, if of an odd number of the others Q is less than 0");
        for (int word = 0; word < 16; word++) {
            int[] levels = new int[4];
            for (int bit = 0; bit < 4; bit++) {
                levels[bit] = (word >> bit & 1) == 1 ? -7 : 7;
            }
            SparseChecks x = Due.coded("C40c0123.", levels);
            x.begin();
            x.round(1);
            for (int bit = 0; bit < 4; bit++) {
                boolean odd = Integer.bitCount(word & ~(1 << bit)) % 2 == 1;
                Due.is("MESSAGE to " + bit + " by " + word, x.message(0, bit), odd ? 93 : 107);
            }
        }
    }

    private static void zeroIsNoSign() {
        Due.sentence("Q less than 0 alone counts as a sign (Q 0 does not)");
        SparseChecks x = Due.coded("C30c012.", 0, -6, 4);
        x.begin();
        x.round(1);
        Due.is("by -6 and 4", x.message(0, 0), 96);
        Due.is("by 0 and 4", x.message(0, 1), 100);
        Due.is("by 0 and -6", x.message(0, 2), 100);
        SparseChecks two = Due.coded("C30c012.", 0, 0, -6);
        two.begin();
        two.round(1);
        for (int bit = 0; bit < 3; bit++) {
            Due.is("by 0", two.message(0, bit), 100);
        }
        Due.is("THE WORD", two.about(4), 4);
    }

    /** A BIT to which three CHECKS over it alone send 31 each. */
    private static int threeTimes31And(int level) {
        SparseChecks x = Due.coded("C20c0.c0.c0.", level);
        x.begin();
        x.round(1);
        int once = x.bit(0, 1);
        x.round(5);
        Due.is("it stays so", x.bit(0, 1), once);
        return once - 100;
    }

    private static void totalIsHeldAbove() {
        Due.sentence("its TOTAL becomes Q and that MESSAGE together, held to -99 .. 99");
        Due.is("5 and 93", threeTimes31And(5), 98);
        Due.is("6 and 93", threeTimes31And(6), 99);
        Due.is("7 and 93", threeTimes31And(7), 99);
        Due.is("31 and 93", threeTimes31And(31), 99);
        Due.is("-31 and 93", threeTimes31And(-31), 62);
    }

    /** Two BITS that three CHECKS are over: level and 31 below 0, then both so, and 31 below that, and again. */
    private static int threeTimesBelow(int level) {
        SparseChecks x = Due.coded("C20c01.c01.c01.", -level, -31);
        x.begin();
        x.round(1);
        Due.is("both are so", x.bit(0, 1), x.bit(1, 1));
        Due.is("MESSAGE -31", x.message(2, 0), 69);
        return x.bit(0, 1) - 100;
    }

    private static void totalIsHeldBelow() {
        Due.sentence("its TOTAL becomes Q and that MESSAGE together, held to -99 .. 99");
        Due.is("-5 less 93", threeTimesBelow(5), -98);
        Due.is("-6 less 93", threeTimesBelow(6), -99);
        Due.is("-7 less 93", threeTimesBelow(7), -99);
        Due.is("-31 less 93", threeTimesBelow(31), -99);
    }

    private static void qBeyondTheTotal() {
        Due.sentence("Q of a BIT is its TOTAL less its MESSAGE (as they are by then)");
        SparseChecks x = Due.coded("C20c0.c0.c0.c0.", 31);
        x.begin();
        x.round(1);
        // Held to 99, of which 31 are the last CHECK's: without that MESSAGE 68 are left, which the next ROUND goes by.
        Due.is("TOTAL", x.bit(0, 1), 199);
        x.put(3, 0);
        Due.is("PUT leaves TOTAL", x.bit(0, 1), 199);
        x.put(3, 1);
        x.level(1, -31);
        x.put(2, 0);
        x.put(1, 0);
        x.put(0, 0);
        x.put(3, 0);
        // CHECK 3 alone, over BIT 0 (Q 99) and BIT 1 (Q 0).
        x.round(1);
        Due.is("MESSAGE to BIT 1", x.message(3, 1), 131);
        Due.is("MESSAGE to BIT 0", x.message(3, 0), 100);
        Due.is("TOTAL stays held", x.bit(0, 1), 199);
        Due.is("TOTAL of BIT 1", x.bit(1, 1), 131);
    }

    private static void putBothWays() {
        Due.sentence("PUT: a CHECK is OVER a BIT, or is no more, if it was (MESSAGE 0 in either case; TOTAL stays)");
        SparseChecks x = Due.coded("C90c8.c.", 0, 0, 0, 0, 0, 0, 0, 0, 5);
        x.begin();
        x.round(1);
        Due.is("out, the last BIT", x.put(0, 8), 0);
        Due.is("over none", x.check(0), 0);
        Due.is("no MESSAGE", x.message(0, 8), NONE);
        Due.is("in again", x.put(0, 8), 1);
        Due.is("MESSAGE 0", x.message(0, 8), 100);
        for (int bit = 0; bit < 9; bit++) {
            Due.is("into one over none", x.put(1, bit), 1);
        }
        Due.is("over all", x.check(1), 511);
        Due.is("ACTS", x.about(14), 14);
    }

    private static void putLeavesTotal() {
        Due.sentence("PUT leaves in TOTAL what the MESSAGE was worth");
        SparseChecks x = Due.coded("C20c0.", 4);
        x.begin();
        x.round(1);
        x.put(0, 0);
        Due.is("TOTAL", x.bit(0, 1), 135);
        Due.is("ROUNDS", x.about(3), 1);
        x.put(0, 0);
        x.round(1);
        Due.is("and 31 more", x.bit(0, 1), 166);
        x.begin();
        Due.is("BEGUN is by LEVEL", x.bit(0, 1), 104);
    }

    private static void putIsRefused() {
        Due.sentence("PUT: 1 if the CHECK is OVER the BIT then, 0. UNKNOWN: check, bit");
        SparseChecks x = Due.coded("C20c01.c.");
        int[] noCheck = {-1, 2, 6, LOWEST, HIGHEST};
        int[] noBit = {-1, 2, 9, LOWEST, HIGHEST};
        for (int check : noCheck) {
            Due.is("put of CHECK " + check, x.put(check, 0), UNKNOWN);
        }
        for (int bit : noBit) {
            Due.is("put of BIT " + bit, x.put(0, bit), UNKNOWN);
        }
        Due.is("ACTS", x.about(14), 0);
        Due.is("CHECK 0", x.check(0), 3);
        Due.is("at first there is no CHECK", new SparseChecks().put(0, 0), UNKNOWN);
    }

    private static void growIsRefused() {
        Due.sentence("GROWN: how many more CHECKS are OVER it. UNKNOWN; BAD: d (1 .. how many CHECKS there are)");
        SparseChecks x = Due.coded("C30c01.c.c.");
        int[] bad = {0, -1, 4, 6, 7, LOWEST, HIGHEST};
        int[] no = {-1, 3, 9, LOWEST, HIGHEST};
        for (int d : bad) {
            Due.is("grow to " + d, x.grow(0, d), BAD);
            for (int bit : no) {
                Due.is("UNKNOWN ahead of BAD", x.grow(bit, d), UNKNOWN);
            }
        }
        for (int bit : no) {
            Due.is("grow " + bit, x.grow(bit, 1), UNKNOWN);
        }
        Due.is("ACTS", x.about(14), 0);
        Due.is("grow to all", x.grow(2, 3), 3);
        SparseChecks none = new SparseChecks();
        Due.is("without CHECKS 1 is too many", none.grow(0, 1), BAD);
        Due.is("without CHECKS 0 is BAD, too", none.grow(0, 0), BAD);
        Due.is("without CHECKS, no BIT", none.grow(2, 1), UNKNOWN);
    }

    private static void growToAllChecks() {
        Due.sentence("as long as fewer than d are OVER it");
        SparseChecks x = Due.coded("C90c.c.c.c.c.c.");
        Due.is("six more", x.grow(8, 6), 6);
        Due.is("all are over it", x.bit(8, 2), 63);
        Due.is("no more", x.grow(8, 6), 0);
        for (int check = 0; check < 6; check++) {
            Due.is("MESSAGE 0", x.message(check, 8), 100);
        }
    }

    private static void growWhereEnoughAreOver() {
        Due.sentence("GROWN where d or more are OVER it already is an ACT, too");
        SparseChecks x = Due.coded("C20c0.c0.c0.");
        for (int d = 1; d <= 3; d++) {
            Due.is("grow to " + d, x.grow(0, d), 0);
            Due.is("ACTS", x.about(14), d);
            Due.is("over it", x.bit(0, 2), 7);
        }
        Due.is("undo one", x.undo(), 2);
        Due.is("over it still", x.bit(0, 2), 7);
    }

    private static void grown(String code, int bit, int d, int want) {
        SparseChecks x = Due.coded(code);
        x.grow(bit, d);
        Due.is(code + " grown " + bit + " to " + d, x.bit(bit, 2), want);
    }

    private static void growGoesWhereNoWayLeads() {
        Due.sentence("of CHECKS that are not OVER it those to which no way leads from it, if there are any");
        // A BIT in no CHECK: no way leads anywhere.
        grown("C40c012.c12.c1.", 3, 1, 4);
        grown("C20c1.", 0, 1, 1);
        // Check 2 is out of reach, though it is over more BITS than the far check 1.
        grown("C60c01.c1.c2345.", 0, 2, 5);
        // A CHECK over none is out of reach, too.
        grown("C30c01.c12.c.", 0, 2, 5);
        // To check 2 a way leads by BIT 1, over which both near CHECKS are; to check 3 none, though it is over more.
        grown("C40c01.c01.c1.c23.", 0, 3, 11);
        grown("C60c01.c12.c12.c2.c345.", 0, 2, 17);
    }

    private static void growGoesByTheLongestShortestWay() {
        Due.sentence("else those to which the shortest way is longest");
        grown("C60c01.c12.c23.c34.c45.", 0, 2, 17);
        // The longest shortest way there can be goes over all six CHECKS.
        grown("C70c01.c12.c23.c34.c45.c56.", 0, 2, 33);
        grown("C70c56.c45.c34.c23.c12.c01.", 0, 2, 33);
        // CHECK 0 is on the way, not at its end.
        grown("C60c12.c01.c23.", 0, 2, 6);
        // To check 3 two ways lead: over 1, 2, and straight by BIT 1; the shorter one counts.
        grown("C60c01.c12.c23.c134.", 0, 2, 5);
    }

    private static void growGoesByFewestThenLeast() {
        Due.sentence("of these the one that is OVER fewest BITS, of like ones the least");
        grown("C60c01.c123.c145.c15.", 0, 2, 9);
        grown("C60c01.c123.c14.c15.", 0, 2, 5);
        grown("C60c01.c12.c14.c15.", 0, 2, 3);
        grown("C60c2.c1.c3.", 0, 1, 1);
        grown("C60c23.c1.c3.", 0, 1, 2);
        // Over all other BITS: eight, the most that can be.
        grown("C90c0.c12345678.c12345678.", 0, 2, 3);
    }

    private static void growGoesStepByStep() {
        Due.sentence("GROWN: each step goes by what CHECKS are OVER by then");
        // No way leads to checks 3 and 4: 3, over fewer BITS. By BIT 5 a way of 3 leads to check 4 then, one of 5 to 2.
        grown("C60c01.c12.c2.c5.c35.", 0, 2, 9);
        grown("C60c01.c12.c2.c5.c35.", 0, 3, 13);
        // Now 1 and 4 are both 3 away, over two BITS each.
        grown("C60c01.c12.c2.c5.c35.", 0, 4, 15);
        grown("C60c01.c12.c2.c5.c35.", 0, 5, 31);
    }

    private static void offsetIs0To9() {
        Due.sentence("OFFSET is v: what it was. BAD: v (0 .. 9)");
        SparseChecks x = new SparseChecks();
        Due.is("offset 9", x.offset(9), 0);
        Due.is("offset 0", x.offset(0), 9);
        int[] bad = {-1, 10, LOWEST, HIGHEST};
        for (int v : bad) {
            Due.is("offset " + v, x.offset(v), BAD);
        }
        Due.is("OFFSET", x.about(2), 0);
        Due.is("ACTS", x.about(14), 2);
    }

    private static void offsetLeavesTheRest() {
        Due.sentence("OFFSET told anew leaves TOTALS, MESSAGES");
        SparseChecks x = Due.coded("C20c01.", 9, -4);
        x.begin();
        x.round(1);
        x.offset(9);
        Due.is("MESSAGE", x.message(0, 0), 96);
        Due.is("MESSAGE", x.message(0, 1), 109);
        Due.is("TOTAL", x.bit(0, 1), 105);
        Due.is("TOTAL", x.bit(1, 1), 105);
        Due.is("ROUNDS", x.about(3), 1);
        x.round(1);
        // Q 9 and -4, as they were: amounts 4 and 9 less 9.
        Due.is("MESSAGE by 9", x.message(0, 0), 100);
        Due.is("TOTAL by 9", x.bit(1, 1), 96);
    }

    private static void undoIsLate() {
        Due.sentence("The last ACT is undone: how many are left. LATE: there is none");
        SparseChecks x = new SparseChecks();
        Due.is("undo at first", x.undo(), LATE);
        x.level(0, 3);
        Due.is("undo the one", x.undo(), 0);
        Due.is("undo no further", x.undo(), LATE);
        Due.is("and once more", x.undo(), LATE);
        x.keep(0);
        x.see(0, 0);
        x.write('C');
        x.seed(4L);
        x.drawn(1);
        Due.is("those are no ACTS", x.undo(), LATE);
        x.level(0, 3);
        x.again(0);
        Due.is("no ACTS when one goes on", x.undo(), LATE);
        Due.tell(x, "C20");
        x.begin();
        x.code();
        Due.is("no ACTS when there is a CODE", x.undo(), LATE);
    }

    private static void actsThatChangeNothing() {
        Due.sentence("Each that is not refused is an ACT");
        SparseChecks x = Due.coded("C20c01.");
        x.level(0, 0);
        Due.is("the LEVEL that there was", x.about(14), 1);
        x.begin();
        Due.is("BEGUN where all is 0", x.about(14), 2);
        x.offset(0);
        Due.is("the OFFSET that there was", x.about(14), 3);
        x.grow(0, 1);
        Due.is("GROWN by nothing", x.about(14), 4);
        x.round(7);
        Due.is("ROUNDS, one ACT", x.about(14), 5);
        x.put(0, 0);
        x.put(0, 0);
        Due.is("out and in", x.about(14), 7);
        for (int left = 6; left >= 0; left--) {
            Due.is("undo", x.undo(), left);
        }
        Due.is("ROUNDS", x.about(3), 0);
        Due.is("undo no further", x.undo(), LATE);
    }

    private static void actsAreNeverMoreThan14() {
        Due.sentence("ACTS are a row (never more than 14; if it has 14, the first one is forgotten ahead of the next)");
        for (int told = 13; told <= 16; told++) {
            SparseChecks x = new SparseChecks();
            for (int v = 1; v <= told; v++) {
                x.level(0, v);
            }
            int kept = Math.min(told, 14);
            Due.is("ACTS of " + told, x.about(14), kept);
            for (int left = kept - 1; left >= 0; left--) {
                Due.is("undo", x.undo(), left);
            }
            Due.is("undo no further", x.undo(), LATE);
            Due.is("LEVEL behind " + told, x.bit(0, 0), 100 + told - kept);
        }
        SparseChecks full = new SparseChecks();
        for (int v = 1; v <= 14; v++) {
            full.level(0, v);
        }
        full.level(0, 32);
        full.level(2, 0);
        full.round(0);
        Due.is("what is refused makes none be forgotten", full.about(14), 14);
        for (int left = 13; left >= 0; left--) {
            full.undo();
        }
        Due.is("LEVEL", full.bit(0, 0), 100);
    }

    /** The LEVELS that ACTS tell and undo, by a plain stack of which the lowest falls off. */
    private static void actsGoRoundAndRound() {
        Due.sentence("the last one can be undone (with some forgotten, some undone, by turns)");
        SparseChecks x = new SparseChecks();
        int[] stack = new int[500];
        int top = 0;
        int lowest = 0;
        int v = 0;
        for (int step = 0; step < 110; step++) {
            // By turns some five are told and some three undone, so that the row goes round its end often.
            boolean told = step % 8 < 5;
            if (told) {
                stack[top] = v;
                top++;
                lowest = Math.max(lowest, top - 14);
                v = (v + 7) % 32;
                x.level(0, v);
            } else {
                top--;
                v = stack[top];
                Due.is("undo", x.undo(), top - lowest);
            }
            Due.is("LEVEL", x.bit(0, 0), 100 + v);
            Due.is("ACTS", x.about(14), top - lowest);
        }
        while (top > lowest) {
            top--;
            Due.is("undo", x.undo(), top - lowest);
            Due.is("LEVEL", x.bit(0, 0), 100 + stack[top]);
        }
        Due.is("undo no further", x.undo(), LATE);
    }

    private static void undone(String what, Consumer<SparseChecks> act) {
        SparseChecks x = Due.coded("C41c01.c123.c.", 9, -9, 4, -1);
        x.begin();
        x.round(1);
        String was = Due.readOut(x);
        act.accept(x);
        Due.holds(what + " changes something", !was.equals(Due.readOut(x)));
        Due.is("undo", x.undo(), 6);
        Due.holds(what + " is undone", was.equals(Due.readOut(x)));
    }

    private static void undoGivesAllBack() {
        Due.sentence("The last ACT is undone: how many are left");
        undone("a LEVEL", x -> x.level(3, -31));
        undone("BEGUN", x -> x.begin());
        undone("ROUNDS", x -> x.round(99));
        undone("PUT out", x -> x.put(1, 1));
        undone("PUT in", x -> x.put(2, 3));
        undone("GROWN", x -> x.grow(0, 3));
        undone("OFFSET", x -> x.offset(9));
    }
}
