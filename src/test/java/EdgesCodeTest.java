/** The edges that the document names for BITS, CHECKS, THE TEXT, FAULT, code() and what is read off (promises 1 to 9). */
public final class EdgesCodeTest {
    private static final int UNKNOWN = SparseChecks.UNKNOWN;
    private static final int BAD = SparseChecks.BAD;
    private static final int LATE = SparseChecks.LATE;
    private static final int FULL = SparseChecks.FULL;
    private static final int NONE = SparseChecks.NONE;
    private static final int LOWEST = Integer.MIN_VALUE;
    private static final int HIGHEST = Integer.MAX_VALUE;
    /** No CODE is longer: 69 letters. */
    private static final String LONGEST = "C99c012345678.c012345678.c012345678.c012345678.c012345678.c012345678.";

    public static void main(String[] args) {
        bitsAreTwoToNine();
        checksAreSixAtMost();
        checksAreOverNoneOrMore();
        offsetIsOneFigure();
        allIsZeroAtFirst();
        lettersAre0To255();
        textIsNeverMoreThan70();
        wipedTextIsEmpty();
        lettersACodeCanGoOnWith();
        bitsOfACheckGrow();
        codesAreWithoutBlanks();
        faultIsTheFirst();
        faultSetsLengthAside();
        faultIsItsLengthWhenNotAtItsEnd();
        codeIsLate();
        codeBeginsAllAnew();
        codeOfTheSameTextBeginsAllAnew();
        codeTakesNothingFromAnEarlierText();
        codeForgetsWhatWasKept();
        codeLeavesTextSeenAndSeed();
        aboutIs0To16();
        aboutOfSolved();
        bitIsRefused();
        bitsAtTheirEdges();
        checkIsRefused();
        messageIsRefused();
        messageIsNone();
        Due.end();
    }

    private static void bitsAreTwoToNine() {
        Due.sentence("BITS are 0 .. n less 1 (n is 2 .. 9; 2 at first)");
        Due.is("BITS at first", new SparseChecks().about(0), 2);
        for (int n = 2; n <= 9; n++) {
            SparseChecks x = Due.coded("C" + n + "0c" + (n - 1) + ".");
            Due.is("BITS", x.about(0), n);
            Due.is("the first BIT", x.bit(0, 0), 100);
            Due.is("the last BIT", x.bit(n - 1, 2), 1);
            Due.is("no BIT", x.bit(n, 0), UNKNOWN);
            Due.is("the last BIT's LEVEL", x.level(n - 1, -31), 100);
            Due.is("it is in THE WORD", x.begin(), 1 << n - 1);
        }
        fault("C1", 1);
        fault("C0", 1);
        fault("C:", 1);
        fault("C10", 1);
    }

    private static void checksAreSixAtMost() {
        Due.sentence("CHECKS are 0, 1, .. (never more than 6; none at first)");
        Due.is("CHECKS at first", new SparseChecks().about(1), 0);
        Due.is("no CHECK at first", new SparseChecks().check(0), UNKNOWN);
        StringBuilder text = new StringBuilder("C20");
        for (int checks = 0; checks <= 6; checks++) {
            SparseChecks x = new SparseChecks();
            Due.tell(x, text.toString());
            Due.is("code", x.code(), checks);
            Due.is("CHECKS", x.about(1), checks);
            Due.is("behind the last CHECK", x.check(checks), UNKNOWN);
            Due.is("the last CHECK", x.check(checks - 1), checks == 0 ? UNKNOWN : 2);
            text.append("c1.");
        }
        fault(text.toString(), 3 + 6 * 3);
    }

    private static void checksAreOverNoneOrMore() {
        Due.sentence("each OVER some BITS (none or more)");
        SparseChecks x = Due.coded("C90c.c012345678.c0.c8.c08.c1357.");
        int[] over = {0, 511, 1, 256, 257, 170};
        for (int check = 0; check < 6; check++) {
            Due.is("CHECK " + check, x.check(check), over[check]);
        }
    }

    private static void offsetIsOneFigure() {
        Due.sentence("There is an OFFSET (0 .. 9; 0 at first)");
        Due.is("OFFSET at first", new SparseChecks().about(2), 0);
        for (int v = 0; v <= 9; v++) {
            Due.is("OFFSET", Due.coded("C2" + v).about(2), v);
        }
        fault("C2/", 2);
        fault("C2:", 2);
        fault("C210", 3);
    }

    private static void allIsZeroAtFirst() {
        Due.sentence("A BIT has a LEVEL (0 at first) and a TOTAL (0 at first); a MESSAGE (0 at first). ROUNDS are 0 at first");
        SparseChecks x = Due.coded(LONGEST);
        for (int bit = 0; bit < 9; bit++) {
            Due.is("LEVEL", x.bit(bit, 0), 100);
            Due.is("TOTAL", x.bit(bit, 1), 100);
            for (int check = 0; check < 6; check++) {
                Due.is("MESSAGE", x.message(check, bit), 100);
            }
        }
        Due.is("ROUNDS", x.about(3), 0);
        Due.is("ACTS", x.about(14), 0);
    }

    private static void lettersAre0To255() {
        Due.sentence("A letter (0 .. 255) comes behind THE TEXT: how long it is. BAD");
        SparseChecks x = new SparseChecks();
        Due.is("write 0", x.write(0), 1);
        Due.is("write 255", x.write(255), 2);
        int[] bad = {-1, 256, 'C' + 256, 'C' - 256, LOWEST, HIGHEST};
        for (int letter : bad) {
            Due.is("write " + letter, x.write(letter), BAD);
            Due.is("letters", x.about(16), 2);
        }
    }

    private static void textIsNeverMoreThan70() {
        Due.sentence("THE TEXT is letters (never more than 70). FULL: there are 70");
        SparseChecks x = new SparseChecks();
        for (int time = 0; time < 2; time++) {
            for (int length = 1; length <= 70; length++) {
                Due.is("write", x.write('C'), length);
            }
            Due.is("the 71st", x.write('C'), FULL);
            Due.is("the 71st once more", x.write(0), FULL);
            Due.is("letters", x.about(16), 70);
            Due.is("a bad one is BAD ahead of FULL", x.write(256), BAD);
            Due.is("another is, too", x.write(-1), BAD);
            Due.is("wipe", x.wipe(), 70);
        }
    }

    private static void wipedTextIsEmpty() {
        Due.sentence("THE TEXT is empty: how long it was");
        SparseChecks x = new SparseChecks();
        Due.is("wipe nothing", x.wipe(), 0);
        Due.tell(x, "C30c012.");
        Due.is("wipe", x.wipe(), 8);
        Due.is("wipe again", x.wipe(), 0);
        Due.is("letters", x.about(16), 0);
        Due.is("fault of no letters", x.fault(), 0);
        Due.is("code of no letters", x.code(), LATE);
        x.write('C');
        x.write('4');
        Due.is("nothing of what was wiped comes back", x.fault(), 2);
        x.write('5');
        Due.is("a CODE again", x.fault(), NONE);
        Due.is("without CHECKS", x.code(), 0);
        Due.is("its BITS", x.about(0), 4);
    }

    /** Of all letters just the allowed ones can come behind the start of a CODE. */
    private static void goesOnWith(String start, String allowed) {
        for (int letter = 0; letter <= 255; letter++) {
            SparseChecks x = new SparseChecks();
            Due.tell(x, start);
            x.write(letter);
            int fault = x.fault();
            boolean taken = allowed.indexOf(letter) >= 0;
            Due.holds(start + " with letter " + letter, taken == (fault == NONE || fault == start.length() + 1));
            Due.holds(start + " with letter " + letter + " at its place", taken || fault == start.length());
        }
    }

    private static void lettersACodeCanGoOnWith() {
        Due.sentence("A CODE is a TEXT: C, n (a figure, 2 .. 9), OFFSET (a figure), then CHECKS, none or more, each c, then "
            + "BITS (figures, each greater than the one ahead of it; none or more), then a point (.)");
        goesOnWith("", "C");
        goesOnWith("C", "23456789");
        goesOnWith("C2", "0123456789");
        goesOnWith("C20", "c");
        goesOnWith("C20c", "01.");
        goesOnWith("C20c0", "1.");
        goesOnWith("C20c1", ".");
        goesOnWith("C20c01", ".");
        goesOnWith("C20c01.", "c");
        goesOnWith("C20c.", "c");
        goesOnWith("C53c", "01234.");
        goesOnWith("C53c2", "34.");
        goesOnWith("C90c", "012345678.");
        goesOnWith("C90c7", "8.");
        goesOnWith("C90c8", ".");
        goesOnWith("C20c.c.c.c.c.", "c");
        goesOnWith("C20c.c.c.c.c.c.", "");
        goesOnWith(LONGEST, "");
    }

    private static void bitsOfACheckGrow() {
        Due.sentence("BITS (figures, each greater than the one ahead of it; none or more); so a BIT that there is not, or not "
            + "greater");
        fault("C30c00", 5);
        fault("C30c01.c11", 9);
        fault("C30c10", 5);
        fault("C30c3", 4);
        fault("C90c9", 4);
        // Each CHECK begins anew.
        fault("C30c2.c0.c2.c012.", NONE);
    }

    private static void codesAreWithoutBlanks() {
        Due.sentence("(Without blanks.)");
        String code = "C31c02.c.c1.";
        for (int place = 0; place <= code.length(); place++) {
            fault(code.substring(0, place) + " " + code.substring(place), place);
        }
    }

    private static void faultIsTheFirst() {
        Due.sentence("FAULT: the place (from 0) of the first letter by which THE TEXT can be no CODE, whatever came behind it");
        fault("xC20", 0);
        fault("x", 0);
        fault("C1xx", 1);
        fault("C2xx", 2);
        fault("C20xc01.", 3);
        fault("C20c01.C20c01.", 7);
        fault("C20c10.c10.", 5);
        fault("C20c0c1.", 5);
        // A seventh c, at its own place, whatever it would be over.
        fault("C20c.c.c.c.c.c.c.", 15);
        fault("C20c.c.c.c.c.c.c9", 15);
    }

    private static void faultSetsLengthAside() {
        Due.sentence("(its length set aside; so a seventh c, a BIT that there is not, or not greater)");
        Due.is("letters of the longest CODE", LONGEST.length(), 69);
        fault(LONGEST, NONE);
        fault(LONGEST + "c", 69);
        fault(LONGEST + ".", 69);
        SparseChecks x = Due.coded(LONGEST);
        Due.is("its CHECKS", x.about(1), 6);
        Due.is("its last CHECK", x.check(5), 511);
        Due.is("one letter more", x.write('c'), 70);
        Due.is("one letter too many", x.write('c'), FULL);
        Due.is("fault of 70 letters", x.fault(), 69);
        Due.is("code of 70 letters", x.code(), LATE);
    }

    private static void faultIsItsLengthWhenNotAtItsEnd() {
        Due.sentence("its length, if it is only not at its end; NONE: none");
        String code = "C43c013.c.c2.";
        for (int length = 0; length <= code.length(); length++) {
            boolean ends = length == 3 || length > 3 && code.charAt(length - 1) == '.';
            fault(code.substring(0, length), ends ? NONE : length);
        }
    }

    private static void fault(String text, int want) {
        SparseChecks x = new SparseChecks();
        Due.tell(x, text);
        Due.is("fault of '" + text + "'", x.fault(), want);
        int code = x.code();
        Due.holds("code of '" + text + "'", want == NONE ? code >= 0 : code == LATE);
    }

    private static void codeIsLate() {
        Due.sentence("LATE: a FAULT. A code() that is LATE changes nothing");
        String[] late = {"", "C", "C2", "C1", "C20c", "C20c0", "C20c2.", "C20c10.", "C20 ", "C20c.c.c.c.c.c.c."};
        for (String text : late) {
            SparseChecks x = Due.coded("C32c01.c12.", 4, -2, 7);
            x.begin();
            x.round(1);
            x.keep(0);
            Due.tell(x, text);
            String was = Due.readOut(x);
            Due.is("code of '" + text + "'", x.code(), LATE);
            Due.holds("nothing is changed by '" + text + "'", was.equals(Due.readOut(x)));
            Due.is("ACTS stay", x.undo(), 4);
            Due.is("what was kept stays", x.again(0), 1);
        }
    }

    private static void codeBeginsAllAnew() {
        Due.sentence("THE TEXT is THE CODE (all LEVELS, TOTALS, MESSAGES, ROUNDS 0, no ACTS)");
        SparseChecks x = Due.coded(LONGEST);
        for (int bit = 0; bit < 9; bit++) {
            x.level(bit, -31 + bit);
        }
        x.begin();
        x.round(2);
        // Fewer BITS and CHECKS, then as many as there were: nothing of what was comes back.
        Due.tell(x, "C20");
        Due.is("fewer", x.code(), 0);
        Due.is("BIT 2", x.bit(2, 0), UNKNOWN);
        Due.is("CHECK 0", x.check(0), UNKNOWN);
        Due.is("OFFSET", x.about(2), 0);
        Due.is("THE WORD", x.about(4), 0);
        Due.is("undo", x.undo(), LATE);
        Due.tell(x, LONGEST);
        Due.is("more", x.code(), 6);
        allZero(x);
    }

    private static void allZero(SparseChecks x) {
        for (int bit = 0; bit < x.about(0); bit++) {
            Due.is("LEVEL", x.bit(bit, 0), 100);
            Due.is("TOTAL", x.bit(bit, 1), 100);
            for (int check = 0; check < x.about(1); check++) {
                int message = x.message(check, bit);
                Due.holds("MESSAGE", message == 100 || message == NONE);
            }
        }
        Due.is("ROUNDS", x.about(3), 0);
        Due.is("ACTS", x.about(14), 0);
        Due.is("undo", x.undo(), LATE);
    }

    private static void codeOfTheSameTextBeginsAllAnew() {
        Due.sentence("THE TEXT is THE CODE (all LEVELS, TOTALS, MESSAGES, ROUNDS 0, no ACTS)");
        SparseChecks x = Due.coded("C32c01.c12.", 4, -2, 7);
        x.begin();
        x.round(3);
        x.put(0, 2);
        x.offset(7);
        Due.is("the same TEXT", x.code(), 2);
        Due.is("CHECK 0", x.check(0), 3);
        Due.is("OFFSET", x.about(2), 2);
        allZero(x);
        Due.is("and once more", x.code(), 2);
        allZero(x);
    }

    private static void codeTakesNothingFromAnEarlierText() {
        Due.sentence("THE TEXT is THE CODE: how many CHECKS");
        SparseChecks x = Due.coded(LONGEST);
        Due.tell(x, "C30c1.c.c02.");
        Due.is("fewer BITS in each CHECK", x.code(), 3);
        Due.is("CHECK 0", x.check(0), 2);
        Due.is("CHECK 1", x.check(1), 0);
        Due.is("CHECK 2", x.check(2), 5);
        Due.is("CHECK 3", x.check(3), UNKNOWN);
        // A TEXT that is read as far as its fault leaves nothing, either.
        Due.tell(x, "C30c012.c012.c012.c3");
        Due.is("fault", x.fault(), 19);
        Due.is("code", x.code(), LATE);
        Due.is("CHECK 0", x.check(0), 2);
        Due.tell(x, "C31c0.");
        Due.is("code", x.code(), 1);
        Due.is("CHECK 0", x.check(0), 1);
    }

    private static void codeForgetsWhatWasKept() {
        Due.sentence("what was kept is gone");
        SparseChecks x = Due.coded("C20c01.");
        x.keep(0);
        x.keep(1);
        x.code();
        Due.is("slot 0", x.again(0), LATE);
        Due.is("slot 1", x.again(1), LATE);
        x.keep(1);
        Due.is("kept anew", x.again(1), 0);
        Due.is("the other is not", x.again(0), LATE);
    }

    private static void codeLeavesTextSeenAndSeed() {
        Due.sentence("THE TEXT, SEEN, THE SEED stay");
        SparseChecks x = new SparseChecks();
        for (int i = 0; i < 6; i++) {
            x.see(20, 63);
        }
        x.seed(Long.MIN_VALUE);
        Due.tell(x, "C20c01.");
        x.code();
        Due.is("letters", x.about(16), 7);
        Due.is("fault", x.fault(), NONE);
        Due.is("SEEN", x.about(15), 6);
        Due.is("SEEN is full still", x.see(0, 0), FULL);
        Due.is("which", x.which(), 0);
        Due.is("THE SEED", x.seed(0L), Long.MIN_VALUE);
        Due.is("THE TEXT goes on", x.write('c'), 8);
    }

    private static void aboutIs0To16() {
        Due.sentence("BITS (what = 0) .. letters of THE TEXT (16). BAD");
        SparseChecks x = new SparseChecks();
        int[] first = {2, 0, 0, 0, 0, 0, 1, NONE, 0, 4, 1, 0, 0, 0, 0, 0, 0};
        for (int what = 0; what <= 16; what++) {
            Due.is("about " + what, x.about(what), first[what]);
        }
        int[] bad = {-1, 17, 18, 32, LOWEST, HIGHEST};
        for (int what : bad) {
            Due.is("about " + what, x.about(what), BAD);
        }
    }

    private static void aboutOfSolved() {
        Due.sentence("SOLVED: nothing is OPEN");
        SparseChecks x = Due.coded("C20c01.c.", -1, 0);
        Due.is("SOLVED ahead of BEGUN", x.about(6), 1);
        x.begin();
        Due.is("OPEN", x.about(5), 1);
        Due.is("SOLVED", x.about(6), 0);
        Due.is("without CHECKS", new SparseChecks().about(6), 1);
    }

    private static void bitIsRefused() {
        Due.sentence("Of a BIT its LEVEL and 100 (what = 0), .. (2: bits). UNKNOWN; BAD");
        SparseChecks x = Due.coded("C90c08.");
        int[] no = {-1, 9, 32, LOWEST, HIGHEST};
        for (int bit : no) {
            for (int what = -1; what <= 3; what++) {
                Due.is("bit " + bit + " " + what, x.bit(bit, what), UNKNOWN);
            }
        }
        int[] bad = {-1, 3, 32, LOWEST, HIGHEST};
        for (int what : bad) {
            Due.is("bit 0 " + what, x.bit(0, what), BAD);
            Due.is("bit 8 " + what, x.bit(8, what), BAD);
        }
        Due.is("at first there is no third BIT", new SparseChecks().bit(2, 0), UNKNOWN);
    }

    private static void bitsAtTheirEdges() {
        Due.sentence("its LEVEL and 100, its TOTAL and 100, CHECKS that are OVER it");
        SparseChecks x = Due.coded("C20c0.c0.c0.c0.c0.c0.", 31, -31);
        x.begin();
        Due.is("LEVEL 31", x.bit(0, 0), 131);
        Due.is("LEVEL -31", x.bit(1, 0), 69);
        Due.is("TOTAL 31", x.bit(0, 1), 131);
        Due.is("TOTAL -31", x.bit(1, 1), 69);
        Due.is("all CHECKS", x.bit(0, 2), 63);
        Due.is("no CHECK", x.bit(1, 2), 0);
    }

    private static void checkIsRefused() {
        Due.sentence("BITS that a CHECK is OVER, as bits. UNKNOWN");
        SparseChecks x = Due.coded("C20c.c.c.c.c.c1.");
        int[] no = {-1, 6, 32, LOWEST, HIGHEST};
        for (int check : no) {
            Due.is("check " + check, x.check(check), UNKNOWN);
            Due.is("check " + check + " at first", new SparseChecks().check(check), UNKNOWN);
        }
        Due.is("the last one", x.check(5), 2);
        Due.is("over none", x.check(0), 0);
    }

    private static void messageIsRefused() {
        Due.sentence("UNKNOWN: check, bit");
        SparseChecks x = Due.coded("C30c012.c.");
        int[] noCheck = {-1, 2, 6, 32, LOWEST, HIGHEST};
        int[] noBit = {-1, 3, 9, 32, LOWEST, HIGHEST};
        for (int check : noCheck) {
            Due.is("message of " + check, x.message(check, 0), UNKNOWN);
            for (int bit : noBit) {
                Due.is("message of " + check + " to " + bit, x.message(check, bit), UNKNOWN);
            }
        }
        for (int bit : noBit) {
            Due.is("message to " + bit, x.message(0, bit), UNKNOWN);
            Due.is("message to " + bit + " of one over none", x.message(1, bit), UNKNOWN);
        }
        Due.is("at first", new SparseChecks().message(0, 0), UNKNOWN);
    }

    private static void messageIsNone() {
        Due.sentence("A MESSAGE and 100; NONE: the CHECK is not OVER that BIT");
        SparseChecks x = Due.coded("C30c02.c.", 3, 4, 5);
        x.begin();
        x.round(1);
        Due.is("over it", x.message(0, 0), 105);
        Due.is("not over it", x.message(0, 1), NONE);
        Due.is("over it, too", x.message(0, 2), 103);
        for (int bit = 0; bit < 3; bit++) {
            Due.is("over none", x.message(1, bit), NONE);
        }
    }
}
