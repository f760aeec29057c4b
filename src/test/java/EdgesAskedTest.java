/** The edges that the document names for what is asked without a change: RING to JUDGED, SEEN, WHICH (promises 6, 17 to 22). */
public final class EdgesAskedTest {
    private static final int BAD = SparseChecks.BAD;
    private static final int FULL = SparseChecks.FULL;
    private static final int NONE = SparseChecks.NONE;
    private static final int LOWEST = Integer.MIN_VALUE;
    private static final int HIGHEST = Integer.MAX_VALUE;
    /** THE WORD goes to and fro for ever: behind 19 ROUNDS 2, behind 20 11, behind 21 2. */
    private static final String TO_AND_FRO = "C40c013.c23.c.c023.";
    private static final int[] TO_AND_FRO_LEVELS = {-22, -20, 30, -15};

    public static void main(String[] args) {
        ringIsNone();
        ringIs4OrMore();
        ringIsTheShortest();
        rankOfFewAndMany();
        wordsCountTheEmptySet();
        distanceIsNone();
        trapsAreRefused();
        trapsAtTheirEdges();
        needsAre0To20();
        endsBehind20();
        needsDoNotLookAtTotals();
        bestOfLikeOnes();
        bestIsNone();
        sameIsRefused();
        sameWithoutChecks();
        sameByItsOwnNumberOfRounds();
        sameWhereOneIsNotSolved();
        judgeIsRefused();
        judgeCanNotBe();
        judgeAtTheEdgesOfADoing();
        judgeTellsTheFirst();
        judgeDoesWhatIsAhead();
        judgeRunsAsManyRounds();
        judgeGoesByHowItIs();
        seeIsRefused();
        seenIsNeverMoreThan6();
        unseeNothing();
        whichWithNothingSeen();
        whichBehind0And20Rounds();
        whichWithLevel0();
        whichOfChecksThatThereAreNot();
        whichByHowAllIsWhenAsked();
        Due.end();
    }

    private static void ring(String code, int want) {
        Due.is("RING of " + code, Due.coded(code).about(7), want);
    }

    private static void ringIsNone() {
        Due.sentence("RING: .. without going over anything twice (4 or more); NONE");
        Due.is("RING at first", new SparseChecks().about(7), NONE);
        ring("C90", NONE);
        ring("C90c012345678.", NONE);
        ring("C20c.c.c.c.c.c.", NONE);
        // There and back over one BIT is going over it twice.
        ring("C20c0.c0.c0.c0.c0.c0.", NONE);
        ring("C20c01.c0.", NONE);
        ring("C20c01.c0.c1.", NONE);
        ring("C70c01.c12.c23.c34.c45.c56.", NONE);
        ring("C90c012.c234.c456.c678.", NONE);
    }

    private static void ringIs4OrMore() {
        Due.sentence("RING: two CHECKS over the same two BITS make one of 4. RING goes over CHECKS and BITS by turns");
        ring("C20c01.c01.", 4);
        ring("C90c78.c.c.c.c.c78.", 4);
        ring("C90c012345678.c08.", 4);
        ring("C30c01.c12.c02.", 6);
        ring("C40c01.c12.c23.c03.", 8);
        ring("C50c01.c12.c23.c34.c04.", 10);
        // As long as can be: all six CHECKS.
        ring("C60c01.c12.c23.c34.c45.c05.", 12);
        ring("C90c38.c08.c01.c12.c24.c34.", 12);
    }

    private static void ringIsTheShortest() {
        Due.sentence("RING: how many BITS and CHECKS, together, are on the shortest way that comes back to where it began");
        ring("C60c01.c12.c23.c34.c45.c03.", 8);
        // By CHECK 5 there is one of 6 and one of 8.
        ring("C60c01.c12.c23.c34.c45.c025.", 6);
        ring("C60c01.c12.c23.c34.c45.c0235.", 4);
        ring("C60c01.c12.c023.", 6);
        ring("C90c01.c12.c02.c78.c78.", 4);
        // Several of like length, over the same BITS.
        ring("C20c01.c01.c01.", 4);
        ring("C90c012345678.c012345678.c012345678.c012345678.c012345678.c012345678.", 4);
        ring("C40c01.c02.c03.c12.c13.c23.", 6);
    }

    private static void sums(String code, int rank, int words, int distance) {
        SparseChecks x = Due.coded(code);
        Due.is("RANK of " + code, x.about(8), rank);
        Due.is("WORDS of " + code, x.about(9), words);
        Due.is("DISTANCE of " + code, x.about(10), distance);
    }

    private static void rankOfFewAndMany() {
        Due.sentence("RANK: how many CHECKS, as sets of BITS that are added modulo two, do not follow from others");
        sums("C20", 0, 4, 1);
        // One over no BITS follows from none at all.
        sums("C20c.", 0, 4, 1);
        sums("C20c0.", 1, 2, 1);
        sums("C90c8.c8.c8.c8.c8.c8.", 1, 256, 1);
        // More CHECKS than BITS.
        sums("C20c0.c1.c01.c.c01.c0.", 2, 1, NONE);
        sums("C60c0.c1.c2.c3.c4.c5.", 6, 1, NONE);
        sums("C90c0.c01.c012.c0123.c01234.c012345.", 6, 8, 1);
        // The last is what the others add up to.
        sums("C60c01.c12.c23.c34.c45.c05.", 5, 2, 6);
        sums("C90c012.c345.c678.c012345678.", 3, 64, 2);
    }

    private static void wordsCountTheEmptySet() {
        Due.sentence("WORDS: sets of BITS by which nothing would be OPEN: how many. WORDS count the empty set");
        sums("C20c0.c1.", 2, 1, NONE);
        sums("C90", 0, 512, 1);
        sums("C70c01.c12.c23.c34.c45.c56.", 6, 2, 7);
        for (int n = 2; n <= 9; n++) {
            Due.is("without CHECKS", Due.coded("C" + n + "0").about(9), 1 << n);
        }
    }

    private static void distanceIsNone() {
        Due.sentence("DISTANCE: the fewest BITS of one of them that has any; NONE: there is none such");
        sums("C30c0.c1.c2.", 3, 1, NONE);
        sums("C30c0.c1.", 2, 2, 1);
        // The one BIT is the first, or the last.
        sums("C20c1.", 1, 2, 1);
        sums("C20c0.", 1, 2, 1);
        sums("C90c0.c1.c2.c3.c4.c5678.", 6, 8, 2);
        Due.is("DISTANCE at first", new SparseChecks().about(10), 1);
    }

    private static void trapsAreRefused() {
        Due.sentence("BAD: a (1 .. n), b (0 .. 6), what");
        for (int n = 2; n <= 9; n++) {
            SparseChecks x = Due.coded("C" + n + "0c0.");
            Due.holds("a = 1", x.traps(1, 0, 0) >= 0);
            Due.holds("a = n", x.traps(n, 0, 0) >= 0);
            int[] badA = {0, -1, n + 1, 10, LOWEST, HIGHEST};
            for (int a : badA) {
                Due.is("traps a " + a + " of " + n, x.traps(a, 0, 0), BAD);
                Due.is("traps a " + a + " of " + n + ", the least", x.traps(a, 0, 1), BAD);
            }
            int[] badB = {-1, 7, LOWEST, HIGHEST};
            for (int b : badB) {
                Due.is("traps b " + b, x.traps(1, b, 0), BAD);
                Due.is("traps b " + b + ", the least", x.traps(1, b, 1), BAD);
            }
            int[] badWhat = {-1, 2, LOWEST, HIGHEST};
            for (int what : badWhat) {
                Due.is("traps what " + what, x.traps(1, 0, what), BAD);
            }
        }
    }

    private static void traps(String code, int a, int b, int count, int least) {
        SparseChecks x = Due.coded(code);
        Due.is("traps " + a + " " + b + " of " + code, x.traps(a, b, 0), count);
        Due.is("the least " + a + " " + b + " of " + code, x.traps(a, b, 1), least);
    }

    private static void trapsAtTheirEdges() {
        Due.sentence("TRAPS of a BITS (1 .. n) and b CHECKS (0 .. 6): sets of a BITS of which just b CHECKS are OVER an odd "
            + "number: how many; the least one (as bits); NONE");
        traps("C90", 1, 0, 9, 1);
        traps("C90", 9, 0, 1, 511);
        traps("C90", 4, 0, 126, 15);
        traps("C90", 9, 1, 0, NONE);
        traps("C20c0.", 2, 6, 0, NONE);
        traps("C90c8.c8.c8.c8.c8.c8.", 1, 6, 1, 256);
        traps("C90c8.c8.c8.c8.c8.c8.", 9, 6, 1, 511);
        traps("C90c8.c8.c8.c8.c8.c8.", 9, 5, 0, NONE);
        traps("C90c8.c8.c8.c8.c8.c8.", 8, 0, 1, 255);
        traps("C20c01.c01.", 1, 2, 2, 1);
        traps("C20c01.c01.", 1, 0, 0, NONE);
        traps("C20c01.c01.", 2, 0, 1, 3);
        // Just b, no fewer and no more.
        traps("C40c0.c01.c012.", 1, 3, 1, 1);
        traps("C40c0.c01.c012.", 1, 2, 1, 2);
        traps("C40c0.c01.c012.", 1, 1, 1, 4);
        traps("C40c0.c01.c012.", 1, 0, 1, 8);
    }

    /** NEEDS and ENDS, held against ROUNDS that are done one by one. */
    private static void needs(String code, int[] levels, int needs, int ends) {
        SparseChecks x = Due.coded(code, levels);
        Due.is("NEEDS of " + code, x.about(11), needs);
        Due.is("ENDS of " + code, x.about(12), ends);
        x.begin();
        int rounds = 0;
        while (rounds < 20 && x.about(6) == 0) {
            x.round(1);
            rounds++;
        }
        Due.is("by ROUNDS: NEEDS of " + code, x.about(6) == 1 ? rounds : NONE, needs);
        Due.is("by ROUNDS: ENDS of " + code, x.about(4), ends);
    }

    private static void needsAre0To20() {
        Due.sentence("NEEDS: the least number of ROUNDS (0 .. 20), from BEGUN on, behind which it is SOLVED; NONE");
        needs("C20", new int[] {-3, -3}, 0, 3);
        needs("C20c01.", new int[] {-3, -3}, 0, 3);
        needs("C20c01.", new int[] {-3, 3}, 1, 0);
        needs("C50c14.c3.c034.c0124.c1234.", new int[] {8, 14, -27, 30, -31}, 20, 0);
        needs("C50c034.c1234.c012.c0123.c0234.", new int[] {-29, 12, 16, -1, 24}, 20, 19);
        // Solved behind 21, which is one too many.
        needs("C40c01.c013.c13.c0123.c13.c023.", new int[] {5, -31, -16, 18}, NONE, 5);
        SparseChecks late = Due.coded("C40c01.c013.c13.c0123.c13.c023.", 5, -31, -16, 18);
        late.begin();
        Due.holds("not solved behind 20", late.round(20) > 0);
        Due.is("solved behind 21", late.round(1), 0);
    }

    private static void endsBehind20() {
        Due.sentence("ENDS: THE WORD behind as many (behind 20, if NONE)");
        needs(TO_AND_FRO, TO_AND_FRO_LEVELS, NONE, 11);
        needs("C50c12.c14.c03.c024.c04.", new int[] {5, -27, -17, -31, -16}, NONE, 14);
        SparseChecks x = Due.coded(TO_AND_FRO, TO_AND_FRO_LEVELS);
        x.begin();
        x.round(19);
        Due.is("behind 19", x.about(4), 2);
        x.round(1);
        Due.is("behind 20", x.about(4), 11);
        x.round(1);
        Due.is("behind 21", x.about(4), 2);
        Due.is("ENDS", x.about(12), 11);
    }

    private static void needsDoNotLookAtTotals() {
        Due.sentence("NEEDS, ENDS, BEST, SAME, SEEN, CHANCE, DRAWN do not look at TOTALS, MESSAGES as they are");
        SparseChecks x = Due.coded("C20c0.c01.", -3, 1);
        String ahead = questions(x);
        x.begin();
        Due.is("behind BEGUN", questions(x).compareTo(ahead), 0);
        x.round(7);
        Due.is("behind ROUNDS", questions(x).compareTo(ahead), 0);
        x.put(0, 0);
        x.put(0, 0);
        x.round(1);
        Due.is("behind PUT twice", questions(x).compareTo(ahead), 0);
    }

    private static String questions(SparseChecks x) {
        x.unsee();
        x.see(1, 2);
        long seed = x.seed(5L);
        int drawn = x.drawn(20);
        x.seed(seed);
        return x.about(11) + " " + x.about(12) + " " + x.about(13) + " " + x.same(10) + " " + x.which() + " "
            + x.chance(3, 4, true) + " " + drawn;
    }

    /** BEST, held against NEEDS by each OFFSET told. */
    private static void best(String code, int[] levels, int best, int... needs) {
        SparseChecks x = Due.coded(code, levels);
        Due.is("BEST of " + code, x.about(13), best);
        for (int v = 0; v <= 9; v++) {
            x.offset(v);
            Due.is("NEEDS of " + code + " by " + v, x.about(11), needs[v]);
            Due.is("BEST of " + code + ", OFFSET being " + v, x.about(13), best);
        }
    }

    private static void bestOfLikeOnes() {
        Due.sentence("BEST: the OFFSET (0 .. 9) by which NEEDS are least (NONE: none can); of like ones the least");
        int n = NONE;
        best("C20", new int[] {-1, 1}, 0, 0, 0, 0, 0, 0, 0, 0, 0, 0, 0);
        best("C20c01.c0.c0.", new int[] {-9, 0}, 9, 2, 2, 2, 2, 2, 2, 2, 2, 2, 1);
        // Here 10 would be better, but OFFSET ends at 9.
        best("C20c01.c0.c0.", new int[] {-10, 0}, 0, 2, 2, 2, 2, 2, 2, 2, 2, 2, 2);
        best("C20c01.c0.c.", new int[] {-8, 0}, 8, 2, 2, 2, 2, 2, 2, 2, 2, 1, 1);
        best("C30c012.c12.", new int[] {0, 1, -7}, 1, 2, 1, 1, 1, 1, 1, n, n, n, n);
        best("C40c0123.c01.", new int[] {9, -2, 7, -4}, 1, n, 2, n, n, n, n, n, n, n, n);
        // The most ROUNDS that count: 20, by one OFFSET alone.
        best("C40c123.c012.c0123.c02.", new int[] {-26, -25, -25, -28}, 1, n, 20, n, n, n, n, n, n, n, n);
        best("C30c01.c02.c012.c012.", new int[] {12, -25, -20}, 0, 20, n, n, n, n, n, n, n, n, n);
        best("C30c02.c2.c012.", new int[] {-7, -9, -9}, 3, n, n, n, 2, 2, 2, n, n, n, n);
        // Behind the best one NEEDS grow: what comes later is another number, but not a lesser one.
        best("C20c01.c01.", new int[] {-9, 8}, 0, 1, 1, 2, 3, 4, n, n, n, n, n);
        best("C30c01.c12.c02.", new int[] {-9, 1, -8}, 0, 1, 1, 1, 1, 1, 1, 1, 1, 2, n);
    }

    private static void bestIsNone() {
        Due.sentence("BEST: .. NONE: by none");
        int n = NONE;
        best("C40c012.c013.c2.", new int[] {0, -1, -1, -1}, n, n, n, n, n, n, n, n, n, n, n);
    }

    private static void sameIsRefused() {
        Due.sentence("BAD: row (no ROW of all CHECKS). ROW of CHECKS (each once, as figures, the first one's the highest)");
        SparseChecks one = Due.coded("C20c01.", 3, -1);
        Due.is("0 of one", one.same(0), 1);
        int[] badOfOne = {1, 9, 10, 100, -1, LOWEST, HIGHEST};
        for (int row : badOfOne) {
            Due.is(row + " of one", one.same(row), BAD);
        }
        SparseChecks two = Due.coded("C20c01.c01.", 3, -1);
        Due.is("01 of two", two.same(1), 1);
        Due.is("10 of two", two.same(10), 1);
        int[] badOfTwo = {0, 2, 11, 12, 20, 21, 100, 101, 110, 1001, -1, -10, LOWEST, HIGHEST};
        for (int row : badOfTwo) {
            Due.is(row + " of two", two.same(row), BAD);
        }
        SparseChecks six = Due.coded("C20c.c.c.c.c.c.");
        Due.is("012345 of six", six.same(12345), 1);
        Due.is("543210 of six", six.same(543210), 1);
        int[] badOfSix = {0, 1234, 11345, 12344, 12346, 543211, 643210, 512340 + 6, 1012345, 5432100, 6543210, -12345,
            LOWEST, HIGHEST};
        for (int row : badOfSix) {
            Due.is(row + " of six", six.same(row), BAD);
        }
    }

    private static void sameWithoutChecks() {
        Due.sentence("without CHECKS 0 is one");
        SparseChecks none = new SparseChecks();
        Due.is("0", none.same(0), 1);
        int[] bad = {1, 10, -1, LOWEST, HIGHEST};
        for (int row : bad) {
            Due.is("row " + row, none.same(row), BAD);
        }
    }

    private static void sameByItsOwnNumberOfRounds() {
        Due.sentence("SAME: NEEDS by that ROW, too (its own number of ROUNDS)");
        // 1 ROUND, but 2 by the ROW, to the same end; behind 1 by the ROW it would be another.
        SparseChecks x = Due.coded("C20c0.c01.", -3, 1);
        Due.is("NEEDS", x.about(11), 1);
        Due.is("NEEDS by the ROW", Due.coded("C20c01.c0.", -3, 1).about(11), 2);
        Due.is("the same", x.same(10), 1);
        // 3 ROUNDS, but 1 by the ROW, to another end; behind 3 by the ROW it would be the same.
        SparseChecks y = Due.coded("C40c013.c23.c123.", 0, -2, -2, -1);
        SparseChecks row = Due.coded("C40c23.c123.c013.", 0, -2, -2, -1);
        Due.is("NEEDS", y.about(11), 3);
        Due.is("ENDS", y.about(12), 0);
        Due.is("NEEDS by the ROW", row.about(11), 1);
        Due.is("ENDS by the ROW", row.about(12), 13);
        Due.is("not the same", y.same(120), 0);
        Due.is("nor the other way round", row.same(201), 0);
        row.begin();
        row.round(3);
        Due.is("behind 3 by the ROW", row.about(4), 0);
    }

    private static void sameWhereOneIsNotSolved() {
        Due.sentence("SAME: whether ENDS, CHECKS being gone through in that ROW instead, is the same (1), or not (0)");
        SparseChecks x = Due.coded("C40c023.c123.", -5, 7, -7, 3);
        Due.is("NEEDS", x.about(11), 1);
        Due.is("NEEDS by the ROW", Due.coded("C40c123.c023.", -5, 7, -7, 3).about(11), NONE);
        Due.is("not the same", x.same(10), 0);
        Due.is("its own ROW", x.same(1), 1);
        Due.is("NEEDS as ever", x.about(11), 1);
        // Both not solved: behind 20 ROUNDS each.
        SparseChecks both = Due.coded("C27c01.c01.", 5, -5);
        Due.is("NEEDS", both.about(11), NONE);
        Due.is("the same, though not solved", both.same(10), 1);
    }

    private static void judgeIsRefused() {
        Due.sentence("BAD: n, row (0 or more, 3 n figures at most); n doings (1 .. 4)");
        SparseChecks x = Due.coded("C20c01.");
        int[] badN = {0, -1, 5, LOWEST, HIGHEST};
        for (int n : badN) {
            Due.is("judge " + n, x.judge(n, 500L), BAD);
            Due.is("judge " + n + " of nothing", x.judge(n, 0L), BAD);
        }
        long beyond = 1L;
        for (int n = 1; n <= 4; n++) {
            beyond *= 1000L;
            Due.is("one figure too many for " + n, x.judge(n, beyond), BAD);
            Due.is("all figures 9 for " + n, x.judge(n, beyond - 1L), 0);
            Due.is("row 0 for " + n, x.judge(n, 0L), 0);
            Due.is("row -1 for " + n, x.judge(n, -1L), BAD);
            Due.is("row far below 0 for " + n, x.judge(n, Long.MIN_VALUE), BAD);
            Due.is("row far above for " + n, x.judge(n, Long.MAX_VALUE), BAD);
            // As an int this would be 500.
            Due.is("row beyond an int for " + n, x.judge(n, (1L << 62) + 500L), BAD);
        }
        Due.is("four that can be", x.judge(4, 200101500600L), NONE);
    }

    private static void judgeCanNotBe() {
        Due.sentence("the place (from 0) of the first that can not be");
        SparseChecks x = Due.coded("C30c01.c.");
        int[] canNot = {0, 1, 10, 99, 100, 201, 210, 203, 303, 320, 390, 309, 402, 409, 430, 431, 490, 501, 510, 602, 609, 620,
            621, 690, 710, 799, 800, 900, 999};
        for (int doing : canNot) {
            Due.is("judge " + doing, x.judge(1, doing), 0);
            Due.is("judge " + doing + " second", x.judge(2, 200000L + doing), 1);
            Due.is("judge " + doing + " third", x.judge(3, 200200000L + doing), 2);
            Due.is("judge " + doing + " fourth", x.judge(4, 200200200000L + doing), 3);
            Due.is("judge " + doing + " first of four", x.judge(4, doing * 1000000000L + 200200200L), 0);
        }
        SparseChecks none = new SparseChecks();
        Due.is("PUT without CHECKS", none.judge(1, 300L), 0);
        Due.is("a CHECK that there is not, not OPEN", none.judge(1, 600L), 0);
        Due.is("a BIT that there is not", none.judge(1, 420L), 0);
        Due.is("ROUNDS without CHECKS", none.judge(2, 199500L), NONE);
    }

    private static void judgeAtTheEdgesOfADoing() {
        Due.sentence("(1, two figures: ROUNDS, 1 .. 99; 2, 0, 0: BEGUN; 3, a CHECK, a BIT: PUT; .. 7, 0, v: OFFSET)");
        SparseChecks x = Due.coded("C90c.c.c.c.c.c.");
        int[] can = {101, 109, 110, 199, 200, 300, 308, 350, 358, 400, 480, 500, 600, 650, 700, 709};
        for (int doing : can) {
            Due.is("judge " + doing, x.judge(1, doing), NONE);
            Due.is("judge " + doing + " four times", x.judge(4, doing * 1001001001L), NONE);
        }
        int[] canNot = {359, 360, 490, 660};
        for (int doing : canNot) {
            Due.is("judge " + doing, x.judge(1, doing), 0);
        }
    }

    private static void judgeTellsTheFirst() {
        Due.sentence("the first that can not be (or is not so); NONE: none");
        SparseChecks x = Due.coded("C20c01.", 5, -3);
        x.begin();
        Due.is("both are not so", x.judge(2, 401410L), 0);
        Due.is("the second is not so", x.judge(2, 400410L), 1);
        Due.is("the third is not so", x.judge(3, 400411600L), 2);
        Due.is("the fourth is not so", x.judge(4, 400411601500L), 3);
        Due.is("all are so", x.judge(3, 400411601L), NONE);
        Due.is("one is not so, a later one can not be", x.judge(3, 400500999L), 1);
    }

    private static void judgeDoesWhatIsAhead() {
        Due.sentence("what is ahead of it being done. 1 .. 3, 7 are done, 4 .. 6 asked");
        SparseChecks x = Due.coded("C20c01.", 5, -3);
        Due.is("BEGUN, then BIT 1 is in THE WORD", x.judge(2, 200411L), NONE);
        Due.is("without BEGUN it is not", x.judge(1, 411L), 0);
        Due.is("a ROUND, then it is SOLVED", x.judge(3, 200101500L), NONE);
        Due.is("without a ROUND it is not", x.judge(2, 200500L), 1);
        Due.is("PUT, then the CHECK is not OPEN", x.judge(3, 200301600L), NONE);
        Due.is("PUT back", x.judge(4, 200301301600L), 3);
        Due.is("PUT back, and it is OPEN", x.judge(4, 200301301601L), NONE);
        Due.is("OFFSET 2, then a ROUND solves it", x.judge(4, 200702101500L), NONE);
        Due.is("OFFSET 3, then none does", x.judge(4, 200703199500L), 3);
        Due.is("nothing of it stays", x.about(14), 2);
        Due.is("nor this", x.about(4), 0);
        Due.is("nor this", x.check(0), 3);
    }

    private static void judgeRunsAsManyRounds() {
        Due.sentence("1, two figures: ROUNDS, 1 .. 99");
        SparseChecks x = Due.coded(TO_AND_FRO, TO_AND_FRO_LEVELS);
        int[] many = {1, 2, 9, 10, 11, 19, 20, 21, 90, 98, 99};
        for (int n : many) {
            x.begin();
            x.round(n);
            int word = x.about(4);
            for (int bit = 0; bit < 4; bit++) {
                long asked = (200100L + n) * 1000L + 400 + 10 * bit;
                Due.is("BIT " + bit + " behind " + n, x.judge(3, asked), (word >> bit & 1) == 0 ? NONE : 2);
                Due.is("BIT " + bit + " behind " + n, x.judge(3, asked + 1), (word >> bit & 1) == 1 ? NONE : 2);
            }
        }
    }

    private static void judgeGoesByHowItIs() {
        Due.sentence("JUDGED: .. (In what follows nothing is changed)");
        SparseChecks x = Due.coded("C20c0.", -31);
        x.begin();
        Due.is("BIT 0 is in THE WORD", x.judge(1, 401L), NONE);
        Due.is("one ROUND from here", x.judge(2, 101400L), NONE);
        Due.is("no ROUND stays", x.judge(1, 401L), NONE);
        x.round(1);
        Due.is("by TOTALS as they are", x.judge(1, 400L), NONE);
        Due.is("PUT leaves in TOTAL what the MESSAGE was worth", x.judge(4, 300300101400L), NONE);
    }

    private static void seeIsRefused() {
        Due.sentence("BAD: n (0 .. 20), v (0 .. 63); FULL: 6");
        SparseChecks x = new SparseChecks();
        int[] badN = {-1, 21, LOWEST, HIGHEST};
        int[] badV = {-1, 64, LOWEST, HIGHEST};
        for (int time = 0; time < 2; time++) {
            for (int n : badN) {
                Due.is("see " + n, x.see(n, 0), BAD);
            }
            for (int v : badV) {
                Due.is("see OPEN " + v, x.see(0, v), BAD);
                Due.is("see 20, OPEN " + v, x.see(20, v), BAD);
            }
            Due.is("SEEN", x.about(15), time * 6);
            // Once more, when it is full: BAD comes ahead of FULL.
            for (int i = 0; i < 6; i++) {
                x.see(i % 2 * 20, i % 2 * 63);
            }
        }
    }

    private static void seenIsNeverMoreThan6() {
        Due.sentence("SEEN: never more than 6, none at first; how many there are. FULL: 6");
        SparseChecks x = new SparseChecks();
        Due.is("SEEN at first", x.about(15), 0);
        for (int time = 0; time < 2; time++) {
            Due.is("see 0, 0", x.see(0, 0), 1);
            Due.is("see 20, 0", x.see(20, 0), 2);
            // The same twice counts twice.
            Due.is("see 20, 0", x.see(20, 0), 3);
            Due.is("see 1, 0", x.see(1, 0), 4);
            Due.is("see 2, 0", x.see(2, 0), 5);
            Due.is("see 3, 0", x.see(3, 0), 6);
            Due.is("see a seventh", x.see(0, 63), FULL);
            Due.is("SEEN", x.about(15), 6);
            Due.is("the seventh is not seen", x.which(), 3);
            Due.is("unsee", x.unsee(), 6);
        }
    }

    private static void unseeNothing() {
        Due.sentence("Nothing is SEEN: how much there was");
        SparseChecks x = new SparseChecks();
        Due.is("unsee at first", x.unsee(), 0);
        x.see(0, 63);
        Due.is("which", x.which(), 0);
        Due.is("unsee one", x.unsee(), 1);
        Due.is("unsee again", x.unsee(), 0);
        Due.is("which", x.which(), 3);
        Due.is("no ACTS", x.about(14), 0);
    }

    private static void whichWithNothingSeen() {
        Due.sentence("WHICH: BITS by which all that is SEEN is so, as bits (nothing SEEN: all)");
        for (int n = 2; n <= 9; n++) {
            Due.is("which of " + n, Due.coded("C" + n + "0c0.").which(), (1 << n) - 1);
        }
    }

    /** What is OPEN behind n ROUNDS, the LEVEL of a BIT having the other sign, by ACTS. */
    private static int openWithTurned(String code, int[] levels, int bit, int n) {
        SparseChecks x = Due.coded(code, levels);
        x.level(bit, -levels[bit]);
        x.begin();
        for (int i = 0; i < n; i++) {
            x.round(1);
        }
        return x.about(5);
    }

    private static void whichBehind0And20Rounds() {
        Due.sentence("behind n ROUNDS (0 .. 20) from BEGUN on OPEN is v (0 .. 63; bits)");
        int[] levels = {22, -20, 30, -15};
        SparseChecks x = Due.coded(TO_AND_FRO, levels);
        int[] behind = {0, 1, 2, 19, 20};
        for (int n : behind) {
            for (int v = 0; v < 16; v++) {
                int due = 0;
                for (int bit = 0; bit < 4; bit++) {
                    due |= openWithTurned(TO_AND_FRO, levels, bit, n) == v ? 1 << bit : 0;
                }
                x.unsee();
                x.see(n, v);
                Due.is("which, OPEN " + v + " behind " + n, x.which(), due);
            }
        }
        Due.holds("19 and 20 are told apart",
            openWithTurned(TO_AND_FRO, levels, 0, 19) != openWithTurned(TO_AND_FRO, levels, 0, 20));
    }

    private static void whichWithLevel0() {
        Due.sentence("LEVEL 0 with the other sign is 0");
        SparseChecks x = Due.coded("C20c01.", 0, 5);
        x.see(0, 0);
        Due.is("BIT 0 stays", x.which(), 1);
        x.unsee();
        x.see(0, 1);
        Due.is("BIT 1 turns", x.which(), 2);
        SparseChecks most = Due.coded("C20c0.", 31, -31);
        most.see(0, 1);
        Due.is("31 turns to -31", most.which(), 1);
    }

    private static void whichOfChecksThatThereAreNot() {
        Due.sentence("OPEN is v (0 .. 63; bits)");
        SparseChecks x = Due.coded("C20c0.", 5, 5);
        for (int v = 2; v < 64; v++) {
            x.unsee();
            x.see(0, v);
            Due.is("which, OPEN " + v, x.which(), 0);
        }
        SparseChecks six = Due.coded("C20c0.c0.c0.c0.c0.c0.", 5, 5);
        six.see(0, 63);
        Due.is("all six OPEN", six.which(), 1);
        six.see(1, 0);
        Due.is("none behind one ROUND", six.which(), 1);
    }

    private static void whichByHowAllIsWhenAsked() {
        Due.sentence("from how all is when that is asked (not when it was told)");
        SparseChecks x = new SparseChecks();
        x.see(0, 1);
        Due.is("without CHECKS none is", x.which(), 0);
        Due.tell(x, "C30c1.");
        x.code();
        Due.is("LEVELS 0", x.which(), 0);
        x.level(1, 4);
        Due.is("BIT 1", x.which(), 2);
        x.put(0, 2);
        x.level(2, 9);
        Due.is("BIT 1 or 2", x.which(), 6);
        x.undo();
        x.undo();
        x.undo();
        Due.is("undone", x.which(), 0);
    }
}
