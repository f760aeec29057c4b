/** Promises 1 to 9: a new object, THE TEXT, FAULT, code() and what is read off. */
public final class CodeTest {
    private static final int LOWEST = Integer.MIN_VALUE;
    private static final int HIGHEST = Integer.MAX_VALUE;

    public static void main(String[] args) {
        promise1();
        promise2And3();
        promise4();
        promise5();
        promise5Late();
        promise6();
        promise6Needs();
        promise7();
        promise8();
        promise9();
        Due.end();
    }

    private static void promise1() {
        SparseChecks x = new SparseChecks();
        int[] about = {2, 0, 0, 0, 0, 0, 1, SparseChecks.NONE, 0, 4, 1, 0, 0, 0, 0, 0, 0};
        for (int what = 0; what < about.length; what++) {
            Due.is("new: about " + what, x.about(what), about[what]);
        }
        for (int bit = 0; bit < 2; bit++) {
            Due.is("new: LEVEL", x.bit(bit, 0), 100);
            Due.is("new: TOTAL", x.bit(bit, 1), 100);
            Due.is("new: over", x.bit(bit, 2), 0);
        }
        Due.is("new: third bit", x.bit(2, 0), SparseChecks.UNKNOWN);
        Due.is("new: a check", x.check(0), SparseChecks.UNKNOWN);
        Due.is("new: undo", x.undo(), SparseChecks.LATE);
        Due.is("new: again 0", x.again(0), SparseChecks.LATE);
        Due.is("new: again 1", x.again(1), SparseChecks.LATE);
        Due.is("new: which", x.which(), 3);
        Due.is("new: unsee", x.unsee(), 0);
        Due.is("new: wipe", x.wipe(), 0);
        Due.is("new: fault", x.fault(), 0);
        Due.is("new: seed", x.seed(7L), 0);
    }

    private static void promise2And3() {
        SparseChecks x = new SparseChecks();
        Due.is("write 0", x.write(0), 1);
        Due.is("write 255", x.write(255), 2);
        int[] bad = {-1, 256, LOWEST, HIGHEST};
        for (int letter : bad) {
            Due.is("write " + letter, x.write(letter), SparseChecks.BAD);
        }
        Due.is("letters behind BAD", x.about(16), 2);
        for (int length = 3; length <= 70; length++) {
            Due.is("write to " + length, x.write('c'), length);
        }
        Due.is("write the 71st", x.write('c'), SparseChecks.FULL);
        Due.is("write a bad 71st", x.write(256), SparseChecks.BAD);
        Due.is("letters when full", x.about(16), 70);
        Due.is("wipe", x.wipe(), 70);
        Due.is("letters behind wipe", x.about(16), 0);
        Due.is("wipe again", x.wipe(), 0);
        Due.is("write behind wipe", x.write('C'), 1);
        Due.is("fault behind wipe", x.fault(), 1);
    }

    private static void fault(String text, int want) {
        SparseChecks x = new SparseChecks();
        Due.tell(x, text);
        Due.is("fault of " + text, x.fault(), want);
        Due.is("fault of " + text + " once more", x.fault(), want);
        Due.is("letters of " + text, x.about(16), text.length());
    }

    private static void promise4() {
        int none = SparseChecks.NONE;
        String[] codes = {"C20", "C29", "C90", "C20c.", "C20c0.", "C20c1.", "C20c01.", "C35c02.c.c012.", "C90c8.",
            "C99c012345678.c012345678.c012345678.c012345678.c012345678.c012345678.", "C20c.c.c.c.c.c."};
        for (String code : codes) {
            fault(code, none);
        }
        String[] notAtEnd = {"", "C", "C2", "C9", "C20c", "C20c0", "C20c1", "C20c01", "C20c.c", "C90c012345678"};
        for (String text : notAtEnd) {
            fault(text, text.length());
        }
        String[] wrongLast = {"c", "D", " ", "2", "C0", "C1", "C:", "CC", "C2a", "C2/", "C2:", "C2c", "C20C", "C20.",
            "C200", "C20 ", "C20c2", "C30c3", "C20c00", "C20c11", "C20c10", "C90c9", "C20cc", "C20c0c", "C20c0 ", "C20cC",
            "C20c./", "C20c..", "C20c.0", "C20c.c2", "C90c87", "C90c/", "C90c:", "C20c.c.c.c.c.c.c",
            "C99c012345678.c012345678.c012345678.c012345678.c012345678.c012345678.c", "C" + (char) 0, "" + (char) 255};
        for (String text : wrongLast) {
            fault(text, text.length() - 1);
        }
        fault("C20c10.c01.", 5);
        fault("x20c10.", 0);
        fault("C20c01.C20", 7);
    }

    private static void promise5() {
        SparseChecks x = Due.coded("C42c01.c123.", 5, -6, 7, -8);
        Due.is("begin", x.begin(), 10);
        x.round(2);
        x.keep(0);
        x.keep(1);
        x.see(1, 2);
        x.seed(77L);
        Due.tell(x, "C53c024.c13.c.");
        Due.is("code", x.code(), 3);
        int[] about = {5, 3, 3, 0, 0, 0, 1};
        for (int what = 0; what < about.length; what++) {
            Due.is("coded: about " + what, x.about(what), about[what]);
        }
        Due.is("coded: ACTS", x.about(14), 0);
        Due.is("coded: undo", x.undo(), SparseChecks.LATE);
        Due.is("coded: SEEN", x.about(15), 1);
        Due.is("coded: letters", x.about(16), 14);
        Due.is("coded: slot 0", x.again(0), SparseChecks.LATE);
        Due.is("coded: slot 1", x.again(1), SparseChecks.LATE);
        for (int bit = 0; bit < 5; bit++) {
            Due.is("coded: LEVEL", x.bit(bit, 0), 100);
            Due.is("coded: TOTAL", x.bit(bit, 1), 100);
        }
        int[] over = {21, 10, 0};
        for (int check = 0; check < 3; check++) {
            Due.is("coded: check " + check, x.check(check), over[check]);
            for (int bit = 0; bit < 5; bit++) {
                boolean is = (over[check] >> bit & 1) == 1;
                Due.is("coded: message", x.message(check, bit), is ? 100 : SparseChecks.NONE);
            }
        }
        Due.is("coded: seed", x.seed(0L), 77);
        Due.tell(x, "C20");
        Due.is("a code without checks", x.code(), 0);
        Due.is("its bits", x.about(0), 2);
        Due.is("its checks", x.about(1), 0);
        Due.is("its offset", x.about(2), 0);
    }

    private static void promise5Late() {
        SparseChecks x = Due.coded("C42c01.c123.", 5, -6, 7, -8);
        x.begin();
        x.round(1);
        x.keep(1);
        String[] late = {"", "C4", "C42c01", "C42c04.", "C40c", "C42c01.c123.x"};
        for (String text : late) {
            Due.tell(x, text);
            String was = Due.readOut(x);
            Due.is("code of " + text, x.code(), SparseChecks.LATE);
            Due.holds("LATE changes nothing", was.equals(Due.readOut(x)));
        }
        Due.is("still kept", x.again(1), 1);
    }

    private static void promise6() {
        SparseChecks x = Due.coded("C57c012.c234.", 3, -1, 2, -4, 5);
        x.begin();
        x.see(0, 0);
        x.see(0, 1);
        int[] about = {5, 2, 7, 0, 10, 3, 0, SparseChecks.NONE, 2, 8, 2};
        for (int what = 0; what < about.length; what++) {
            Due.is("about " + what, x.about(what), about[what]);
        }
        Due.is("ACTS", x.about(14), 6);
        Due.is("SEEN", x.about(15), 2);
        Due.is("letters", x.about(16), 13);
        int[] bad = {-1, 17, LOWEST, HIGHEST};
        for (int what : bad) {
            Due.is("about " + what, x.about(what), SparseChecks.BAD);
        }
        x.round(3);
        Due.is("ROUNDS", x.about(3), 3);
        rings();
        ranks();
    }

    private static void ring(String code, int want) {
        Due.is("RING of " + code, Due.coded(code).about(7), want);
    }

    private static void rings() {
        int none = SparseChecks.NONE;
        ring("C20c01.", none);
        ring("C30c012.c.c2.", none);
        ring("C20c01.c01.", 4);
        ring("C30c01.c12.c02.", 6);
        ring("C40c01.c12.c23.c03.", 8);
        ring("C50c01.c12.c23.c34.c04.", 10);
        ring("C60c01.c12.c23.c34.c45.c05.", 12);
        ring("C60c01.c12.c23.c34.c45.c5.", none);
        ring("C90c01.c12.c02.c456.c4678.", 4);
        ring("C90c01.c12.c23.c03.c024.", 6);
        ring("C90c01234.c0.c1.c2.c3.c4.", none);
        SparseChecks x = Due.coded("C30c01.c12.c02.");
        x.put(2, 0);
        Due.is("RING behind a put", x.about(7), none);
        x.undo();
        Due.is("RING behind undo", x.about(7), 6);
    }

    private static void sums(String code, int rank, int words, int distance) {
        SparseChecks x = Due.coded(code);
        Due.is("RANK of " + code, x.about(8), rank);
        Due.is("WORDS of " + code, x.about(9), words);
        Due.is("DISTANCE of " + code, x.about(10), distance);
    }

    private static void ranks() {
        sums("C90", 0, 512, 1);
        sums("C90c.c.", 0, 512, 1);
        sums("C20c0.c1.", 2, 1, SparseChecks.NONE);
        sums("C20c01.c01.c01.", 1, 2, 2);
        sums("C20c1.", 1, 2, 1);
        sums("C20c0.", 1, 2, 1);
        sums("C30c012.", 1, 4, 2);
        sums("C30c01.c12.", 2, 2, 3);
        sums("C30c01.c12.c02.", 2, 2, 3);
        sums("C30c01.c12.c012.", 3, 1, SparseChecks.NONE);
        sums("C70c0246.c1256.c3456.", 3, 16, 3);
        sums("C90c01.c12.c23.c34.c45.c56.", 6, 8, 1);
        sums("C60c01.c12.c23.c34.c45.c05.", 5, 2, 6);
    }

    private static void needs(String code, int[] levels, int needs, int ends, int best) {
        SparseChecks x = Due.coded(code, levels);
        for (int time = 0; time < 2; time++) {
            Due.is("NEEDS of " + code, x.about(11), needs);
            Due.is("ENDS of " + code, x.about(12), ends);
            Due.is("BEST of " + code, x.about(13), best);
            // They go by LEVELS, not by TOTALS or MESSAGES as they are.
            x.begin();
            x.round(2);
        }
    }

    private static void promise6Needs() {
        int none = SparseChecks.NONE;
        needs("C20c01.", new int[] {5, 3}, 0, 0, 0);
        needs("C20c01.", new int[] {-5, -3}, 0, 3, 0);
        needs("C20c01.", new int[] {5, -3}, 1, 0, 0);
        needs("C22c01.", new int[] {5, -3}, 1, 0, 0);
        needs("C23c01.", new int[] {5, -3}, none, 2, 0);
        needs("C20c01.", new int[] {-5, 3}, 1, 3, 0);
        // By OFFSET 0 both come to 0, which is not less than 0; by 5 neither turns.
        needs("C25c01.", new int[] {9, -9}, none, 2, 0);
        needs("C26c01.c1.c.", new int[] {1, -7}, 1, 0, 6);
        // By OFFSET 9 alone bit 0 comes to 0 in the first ROUND, not below.
        needs("C26c01.c1.c.", new int[] {18, -27}, 2, 0, 9);
        needs("C38c12.c2.", new int[] {3, 0, -2}, 1, 0, 2);
        needs("C30c012.c12.c12.", new int[] {-9, 11, -2}, 10, 6, 0);
        needs("C50c01.c023.c0124.c013.c2.c1234.", new int[] {-1, -6, -4, -5, -4}, 20, 0, 0);
        needs("C60c0123.c02345.c245.c02.c025.c01235.", new int[] {2, -10, 5, 12, 1, 7}, none, 2, none);
        needs("C40c012.c013.c2.", new int[] {0, -1, -1, -1}, none, 9, none);
        needs("C41c023.c123.", new int[] {-5, 8, -2, 5}, none, 1, none);
    }

    private static void promise7() {
        SparseChecks x = Due.coded("C31c01.c12.", -31, 31);
        Due.is("LEVEL -31", x.bit(0, 0), 69);
        Due.is("LEVEL 31", x.bit(1, 0), 131);
        Due.is("TOTAL ahead of BEGUN", x.bit(0, 1), 100);
        x.begin();
        Due.is("TOTAL -31", x.bit(0, 1), 69);
        Due.is("over bit 0", x.bit(0, 2), 1);
        Due.is("over bit 1", x.bit(1, 2), 3);
        Due.is("over bit 2", x.bit(2, 2), 2);
        int[] no = {-1, 3, 9, LOWEST, HIGHEST};
        for (int bit : no) {
            Due.is("bit " + bit, x.bit(bit, 0), SparseChecks.UNKNOWN);
            Due.is("bit " + bit + ", bad", x.bit(bit, 3), SparseChecks.UNKNOWN);
        }
        int[] bad = {-1, 3, LOWEST, HIGHEST};
        for (int what : bad) {
            Due.is("bit 0, what " + what, x.bit(0, what), SparseChecks.BAD);
        }
    }

    private static void promise8() {
        SparseChecks x = Due.coded("C90c012345678.c.c08.");
        int[] over = {511, 0, 257};
        for (int check = 0; check < 3; check++) {
            Due.is("check " + check, x.check(check), over[check]);
        }
        int[] no = {-1, 3, 6, LOWEST, HIGHEST};
        for (int check : no) {
            Due.is("check " + check, x.check(check), SparseChecks.UNKNOWN);
        }
    }

    private static void promise9() {
        SparseChecks x = Due.coded("C30c01.", 5, -3);
        x.begin();
        Due.is("message at first", x.message(0, 0), 100);
        x.round(1);
        Due.is("message to 0", x.message(0, 0), 97);
        Due.is("message to 1", x.message(0, 1), 105);
        Due.is("message to 2", x.message(0, 2), SparseChecks.NONE);
        int[] no = {-1, LOWEST, HIGHEST, 9};
        for (int which : no) {
            Due.is("message to bit " + which, x.message(0, which), SparseChecks.UNKNOWN);
            Due.is("message of check " + which, x.message(which, 0), SparseChecks.UNKNOWN);
        }
        Due.is("message to bit 3", x.message(0, 3), SparseChecks.UNKNOWN);
        Due.is("message of check 1", x.message(1, 0), SparseChecks.UNKNOWN);
    }
}
