/** Promises 17 to 22: traps, same, judge, and what is SEEN. */
public final class AskedTest {
    private static final int LOWEST = Integer.MIN_VALUE;
    private static final int HIGHEST = Integer.MAX_VALUE;

    public static void main(String[] args) {
        promise17();
        promise18();
        promise18Rows();
        promise19();
        promise19CanNotBe();
        promise19Bad();
        promise20And21();
        promise22();
        promise22AsItIsWhenAsked();
        Due.end();
    }

    private static void promise17() {
        // Bits alone: 0 turns check 0, 1 both, 2 check 1, 3 none.
        SparseChecks x = Due.coded("C40c01.c12.");
        int[][] counts = {{1, 2, 1}, {0, 4, 2}, {1, 2, 1}, {1, 0, 0}};
        int[][] least = {{8, 1, 2}, {-9, 3, 5}, {7, 11, 13}, {15, -9, -9}};
        for (int a = 1; a <= 4; a++) {
            for (int b = 0; b <= 2; b++) {
                Due.is("traps " + a + " " + b, x.traps(a, b, 0), counts[a - 1][b]);
                Due.is("least trap " + a + " " + b, x.traps(a, b, 1), least[a - 1][b]);
            }
            Due.is("traps of 6 checks", x.traps(a, 6, 0), 0);
            Due.is("least trap of 6 checks", x.traps(a, 6, 1), SparseChecks.NONE);
        }
        SparseChecks six = Due.coded("C90c8.c8.c8.c8.c8.c8.");
        Due.is("traps of all", six.traps(1, 6, 0), 1);
        Due.is("the last bit", six.traps(1, 6, 1), 256);
        Due.is("nine bits", six.traps(9, 6, 1), 511);
        SparseChecks none = Due.coded("C20c0.c1.");
        Due.is("no trap", none.traps(1, 0, 0), 0);
        Due.is("no least trap", none.traps(1, 0, 1), SparseChecks.NONE);
        int[] badA = {0, -1, 5, 9, LOWEST, HIGHEST};
        for (int a : badA) {
            Due.is("traps a " + a, x.traps(a, 0, 0), SparseChecks.BAD);
        }
        int[] badB = {-1, 7, LOWEST, HIGHEST};
        for (int b : badB) {
            Due.is("traps b " + b, x.traps(1, b, 0), SparseChecks.BAD);
        }
        int[] badWhat = {-1, 2, LOWEST, HIGHEST};
        for (int what : badWhat) {
            Due.is("traps what " + what, x.traps(1, 0, what), SparseChecks.BAD);
        }
    }

    private static void promise18() {
        SparseChecks x = Due.coded("C30c012.c12.", -4, 2, -9);
        Due.is("in its own row", x.same(1), 1);
        Due.is("the other way round", x.same(10), 0);
        Due.is("in its own row again", x.same(1), 1);
        int needs = x.about(11);
        int ends = x.about(12);
        x.same(10);
        Due.is("NEEDS as ever", x.about(11), needs);
        Due.is("ENDS as ever", x.about(12), ends);
        x.same(11);
        Due.is("NEEDS behind BAD", x.about(11), needs);
        // By either row it is solved, by its own number of ROUNDS, at words that are not the same.
        SparseChecks solved = Due.coded("C40c013.c023.", 3, 3, -2, 0);
        Due.holds("it is solved", solved.about(11) != SparseChecks.NONE);
        Due.is("two ends", solved.same(10), 0);
        SparseChecks like = Due.coded("C40c01.c23.", 5, -3, 4, -9);
        Due.is("checks apart", like.same(10), 1);
    }

    private static void promise18Rows() {
        SparseChecks none = new SparseChecks();
        Due.is("no checks, 0", none.same(0), 1);
        Due.is("no checks, 1", none.same(1), SparseChecks.BAD);
        Due.is("no checks, -1", none.same(-1), SparseChecks.BAD);
        SparseChecks one = Due.coded("C20c01.", 3, -1);
        Due.is("one check, 0", one.same(0), 1);
        Due.is("one check, 1", one.same(1), SparseChecks.BAD);
        Due.is("one check, 10", one.same(10), SparseChecks.BAD);
        SparseChecks three = Due.coded("C20c01.c.c0.");
        int[] rows = {12, 21, 102, 120, 201, 210};
        for (int row : rows) {
            Due.is("three checks, " + row, three.same(row), 1);
        }
        int[] bad = {0, 1, 2, 10, 11, 13, 22, 111, 112, 122, 200, 202, 212, 213, 301, 1012, 1210, 2100, -12, -210,
            LOWEST, HIGHEST};
        for (int row : bad) {
            Due.is("three checks, " + row, three.same(row), SparseChecks.BAD);
        }
        SparseChecks six = Due.coded("C20c.c.c.c.c.c.");
        Due.is("six checks", six.same(543210), 1);
        Due.is("six checks, 0 first", six.same(12345), 1);
        Due.is("six checks, seven figures", six.same(1543210), SparseChecks.BAD);
        Due.is("six checks, 6", six.same(643210), SparseChecks.BAD);
    }

    private static void promise19() {
        int none = SparseChecks.NONE;
        SparseChecks x = Due.coded("C20c01.", 5, -3);
        Due.is("ahead of BEGUN it is solved", x.judge(1, 500L), none);
        Due.is("begun it is not", x.judge(2, 200500L), 1);
        Due.is("begun, one round, solved", x.judge(3, 200101500L), none);
        Due.is("begun, 99 rounds", x.judge(3, 200199500L), none);
        Due.is("bit 1 is in it", x.judge(2, 200411L), none);
        Due.is("bit 1 is not", x.judge(2, 200410L), 1);
        Due.is("bit 0 is not", x.judge(2, 200400L), none);
        Due.is("bit 0 is in it", x.judge(2, 200401L), 1);
        Due.is("check 0 is open", x.judge(2, 200601L), none);
        Due.is("check 0 is not", x.judge(2, 200600L), 1);
        Due.is("put, then not open", x.judge(3, 200301600L), none);
        Due.is("put twice, then not open", x.judge(4, 200301301600L), 3);
        Due.is("offset 3, then not solved", x.judge(4, 200703101500L), 3);
        Due.is("offset 2, then solved", x.judge(4, 200702101500L), none);
        Due.is("the first of two", x.judge(2, 401601L), 0);
        String was = Due.readOut(x);
        x.judge(4, 200150301709L);
        Due.holds("nothing is changed", was.equals(Due.readOut(x)));
        x.begin();
        Due.is("from how it is now", x.judge(1, 500L), 0);
        Due.is("a round from here", x.judge(2, 101500L), none);
    }

    private static void promise19CanNotBe() {
        int none = SparseChecks.NONE;
        SparseChecks x = Due.coded("C40c01.c.c.");
        int[] can = {101, 110, 199, 200, 300, 303, 323, 400, 430, 500, 600, 620, 700, 709};
        for (int doing : can) {
            Due.is("judge " + doing, x.judge(1, doing), none);
            Due.is("judge " + doing + " thrice", x.judge(3, doing * 1001001L), none);
        }
        int[] canNot = {0, 1, 99, 100, 201, 210, 304, 309, 330, 390, 402, 409, 440, 490, 501, 510, 602, 609, 630, 690, 710,
            790, 800, 811, 900, 999};
        for (int doing : canNot) {
            Due.is("judge " + doing, x.judge(1, doing), 0);
            Due.is("judge " + doing + " behind another", x.judge(2, 200000L + doing), 1);
            Due.is("judge " + doing + " fourth", x.judge(4, 200700500000L + doing), 3);
        }
        Due.is("0 first", x.judge(4, 200L), 0);
    }

    private static void promise19Bad() {
        SparseChecks x = new SparseChecks();
        int[] bad = {0, -1, 5, LOWEST, HIGHEST};
        for (int n : bad) {
            Due.is("judge n " + n, x.judge(n, 500L), SparseChecks.BAD);
        }
        long most = 1;
        for (int n = 1; n <= 4; n++) {
            most *= 1000;
            Due.is("judge, too many figures for " + n, x.judge(n, most), SparseChecks.BAD);
            Due.is("judge, as many as can be", x.judge(n, most - 1), 0);
            Due.is("judge, less than 0", x.judge(n, -1L), SparseChecks.BAD);
            Due.is("judge, highest", x.judge(n, Long.MAX_VALUE), SparseChecks.BAD);
            Due.is("judge, lowest", x.judge(n, Long.MIN_VALUE), SparseChecks.BAD);
        }
    }

    private static void promise20And21() {
        SparseChecks x = Due.coded("C20c01.");
        int[] badN = {-1, 21, LOWEST, HIGHEST};
        for (int n : badN) {
            Due.is("see n " + n, x.see(n, 0), SparseChecks.BAD);
        }
        int[] badV = {-1, 64, LOWEST, HIGHEST};
        for (int v : badV) {
            Due.is("see v " + v, x.see(0, v), SparseChecks.BAD);
        }
        Due.is("SEEN", x.about(15), 0);
        Due.is("see 0 63", x.see(0, 63), 1);
        Due.is("see 20 0", x.see(20, 0), 2);
        for (int count = 3; count <= 6; count++) {
            Due.is("see", x.see(1, 1), count);
        }
        Due.is("see a seventh", x.see(1, 1), SparseChecks.FULL);
        Due.is("see a bad seventh", x.see(21, 1), SparseChecks.BAD);
        Due.is("see another bad seventh", x.see(1, 64), SparseChecks.BAD);
        Due.is("SEEN", x.about(15), 6);
        Due.is("no ACTS", x.about(14), 0);
        Due.is("unsee", x.unsee(), 6);
        Due.is("unsee again", x.unsee(), 0);
        Due.is("SEEN", x.about(15), 0);
        Due.is("all bits again", x.which(), 3);
        Due.is("see anew", x.see(0, 0), 1);
    }

    private static void promise22() {
        // Turned bits: 0 opens check 0, 1 both, 2 check 1; bit 3, LEVEL 0, stays as it is.
        SparseChecks x = Due.coded("C40c013.c123.", 5, 6, 7, 0);
        Due.is("nothing seen", x.which(), 15);
        x.see(0, 1);
        Due.is("check 0", x.which(), 1);
        x.unsee();
        x.see(0, 3);
        Due.is("both", x.which(), 2);
        x.unsee();
        x.see(0, 2);
        Due.is("check 1", x.which(), 4);
        x.unsee();
        x.see(0, 0);
        Due.is("none", x.which(), 8);
        x.see(0, 1);
        Due.is("both none and one", x.which(), 0);
        x.unsee();
        x.see(0, 4);
        Due.is("a check that there is not", x.which(), 0);
        // Behind one ROUND bit 1 of C20c01. (5, 3; then 5, -3) is turned back, and so is bit 0.
        SparseChecks y = Due.coded("C20c01.", 5, 3);
        y.see(1, 1);
        Due.is("not so behind one round", y.which(), 0);
        y.unsee();
        y.see(1, 0);
        Due.is("behind one round", y.which(), 3);
        y.see(20, 0);
        Due.is("behind twenty", y.which(), 3);
        y.see(0, 1);
        Due.is("ahead of all", y.which(), 3);
        y.see(20, 1);
        Due.is("not so behind twenty", y.which(), 0);
        Due.is("nothing is changed", y.about(3), 0);
        Due.is("LEVELS as told", y.bit(1, 0), 103);
    }

    private static void promise22AsItIsWhenAsked() {
        SparseChecks x = Due.coded("C30c01.c12.", 5, 6, 7);
        x.see(0, 1);
        Due.is("bit 0", x.which(), 1);
        x.put(0, 0);
        x.put(1, 0);
        Due.is("check 0 is over bit 1 alone", x.which(), 0);
        x.put(1, 1);
        Due.is("bit 1", x.which(), 2);
        x.level(1, 0);
        Due.is("bit 1 can not turn", x.which(), 0);
        x.undo();
        x.begin();
        x.round(3);
        Due.is("TOTALS do not matter", x.which(), 2);
        Due.tell(x, "C20c.");
        x.code();
        Due.is("SEEN stays over a code", x.which(), 0);
        Due.is("SEEN", x.about(15), 1);
    }
}
