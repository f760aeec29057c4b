/** What the tests share: answers held against those that are due, and objects with a CODE. */
final class Due {
    private static int asked = 0;
    private static int wrong = 0;
    private static String sentence = "";

    private Due() {
    }

    /** Names the document's sentence that what follows tries, so that a wrong answer says what it breaks. */
    static void sentence(String words) {
        sentence = " [" + words + "]";
    }

    static void is(String call, long got, long want) {
        asked++;
        if (got != want) {
            wrong++;
            System.out.println(call + " answered " + got + ", due is " + want + sentence);
        }
    }

    static void holds(String what, boolean so) {
        asked++;
        if (!so) {
            wrong++;
            System.out.println("not so: " + what + sentence);
        }
    }

    /** The last call of a main method. */
    static void end() {
        System.out.println(asked + " answers, " + wrong + " not as due");
        if (wrong != 0 || asked == 0) {
            System.exit(1);
        }
    }

    static boolean anyWrong() {
        return wrong != 0;
    }

    static void tell(SparseChecks x, String text) {
        x.wipe();
        for (int i = 0; i < text.length(); i++) {
            x.write(text.charAt(i));
        }
    }

    /** A new object whose CODE is the text and whose first LEVELS are as told, each by an ACT. */
    static SparseChecks coded(String text, int... levels) {
        SparseChecks x = new SparseChecks();
        tell(x, text);
        if (x.code() < 0) {
            holds("a CODE: " + text, false);
        }
        for (int bit = 0; bit < levels.length; bit++) {
            x.level(bit, levels[bit]);
        }
        return x;
    }

    /** All that can be read off without running ROUNDS, to see that a call changed nothing. */
    static String readOut(SparseChecks x) {
        StringBuilder all = new StringBuilder();
        int[] plain = {0, 1, 2, 3, 4, 5, 14, 15, 16};
        for (int what : plain) {
            all.append(x.about(what)).append(' ');
        }
        for (int bit = 0; bit < 9; bit++) {
            all.append(x.bit(bit, 0)).append(' ').append(x.bit(bit, 1)).append(' ');
        }
        for (int check = 0; check < 6; check++) {
            all.append(x.check(check)).append(' ');
            for (int bit = 0; bit < 9; bit++) {
                all.append(x.message(check, bit)).append(' ');
            }
        }
        long seed = x.seed(0L);
        x.seed(seed);
        return all.append(x.fault()).append(' ').append(seed).toString();
    }
}
