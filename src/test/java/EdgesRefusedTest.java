import java.util.ArrayList;
import java.util.List;
import java.util.function.Consumer;
import java.util.function.Supplier;
import java.util.function.ToLongFunction;

/**
 * Part 5 of the document's terms: of several refusals the first that a call names, and what is refused changes nothing;
 * and of part 2: what is asked changes nothing. Each call is tried by itself on objects in several states; how all is
 * behind it is held against objects on which it was not called.
 */
public final class EdgesRefusedTest {
    private static final int UNKNOWN = SparseChecks.UNKNOWN;
    private static final int BAD = SparseChecks.BAD;
    private static final int LATE = SparseChecks.LATE;
    private static final int FULL = SparseChecks.FULL;
    private static final int LOWEST = Integer.MIN_VALUE;
    private static final int HIGHEST = Integer.MAX_VALUE;
    private static final String CODE = "C91c012345678.c0246.c135.c.c78.c01.";

    public static void main(String[] args) {
        constantsAreAsTold();
        refusedOnANewObject();
        refusedOnACode();
        refusedWhenAllIsFull();
        unknownComesAheadOfBad();
        unknownComesAheadOfLate();
        badComesAheadOfFull();
        askedChangesNothing(EdgesRefusedTest::newOne);
        askedChangesNothing(EdgesRefusedTest::coded);
        askedChangesNothing(EdgesRefusedTest::full);
        Due.end();
    }

    private static SparseChecks newOne() {
        return new SparseChecks();
    }

    /** Three BITS, two CHECKS; some ACTS, one SLOT kept, something SEEN, a TEXT that is no CODE any more. */
    private static SparseChecks coded() {
        SparseChecks x = Due.coded("C32c01.c12.", 4, -2, 7);
        x.begin();
        x.round(2);
        x.keep(1);
        x.put(0, 2);
        x.see(1, 1);
        x.seed(-5L);
        x.write('x');
        return x;
    }

    /** As many BITS, CHECKS, letters, ACTS, SEEN as can be, both SLOTS kept. */
    private static SparseChecks full() {
        SparseChecks x = Due.coded(CODE, 9, -8, 7, -6, 5, -4, 3, -2, 1);
        for (int length = CODE.length(); length < 70; length++) {
            x.write('x');
        }
        x.begin();
        x.keep(0);
        x.round(3);
        x.keep(1);
        x.put(3, 4);
        x.grow(5, 4);
        x.offset(2);
        x.round(1);
        x.level(8, -31);
        x.put(0, 0);
        for (int i = 0; i < 6; i++) {
            x.see(i, 0);
        }
        x.seed(Long.MAX_VALUE);
        return x;
    }

    /** How all is, told by calls that use the object up: by several such ways, each of fewer than 512 calls. */
    private static List<String> howAllIs(Supplier<SparseChecks> made, Consumer<SparseChecks> call) {
        List<String> all = new ArrayList<>();
        all.add(Due.readOut(behind(made, call)));
        all.add(undoneOneByOne(behind(made, call)));
        for (int slot = 0; slot < 2; slot++) {
            SparseChecks x = behind(made, call);
            all.add(x.again(slot) + " " + Due.readOut(x));
        }
        all.add(goneOn(behind(made, call)));
        return all;
    }

    private static SparseChecks behind(Supplier<SparseChecks> made, Consumer<SparseChecks> call) {
        SparseChecks x = made.get();
        call.accept(x);
        return x;
    }

    private static String undoneOneByOne(SparseChecks x) {
        StringBuilder all = new StringBuilder();
        for (int left = x.undo(); left != LATE; left = x.undo()) {
            all.append(left).append(':').append(x.about(2)).append(' ').append(x.about(3)).append(' ');
            for (int bit = 0; bit < 9; bit++) {
                all.append(x.bit(bit, 1)).append(' ');
            }
            all.append(x.bit(8, 0)).append(' ').append(x.check(0)).append(' ');
        }
        return all.append(Due.readOut(x)).toString();
    }

    private static String goneOn(SparseChecks x) {
        StringBuilder all = new StringBuilder();
        for (int what = 0; what <= 16; what++) {
            all.append(x.about(what)).append(' ');
        }
        all.append(x.which()).append(' ').append(x.drawn(7)).append(' ').append(x.chance(5, 3, true)).append(' ');
        x.round(2);
        all.append(Due.readOut(x)).append(' ');
        all.append(x.write('c')).append(' ').append(x.see(0, 0)).append(' ').append(x.wipe()).append(' ').append(x.unsee());
        return all.toString();
    }

    private static void refused(String what, Supplier<SparseChecks> made, long want, ToLongFunction<SparseChecks> call) {
        Due.sentence("What is refused changes nothing");
        Due.is(what, call.applyAsLong(made.get()), want);
        changesNothing(what, made, call);
    }

    private static void changesNothing(String what, Supplier<SparseChecks> made, ToLongFunction<SparseChecks> call) {
        List<String> without = howAllIs(made, x -> { });
        List<String> with = howAllIs(made, call::applyAsLong);
        for (int i = 0; i < without.size(); i++) {
            Due.holds(what + " changes nothing, way " + i, without.get(i).equals(with.get(i)));
        }
    }

    private static void constantsAreAsTold() {
        Due.sentence("UNKNOWN -1, BAD -2, LATE -3, FULL -4. NONE is -9");
        Due.is("UNKNOWN", UNKNOWN, -1);
        Due.is("BAD", BAD, -2);
        Due.is("LATE", LATE, -3);
        Due.is("FULL", FULL, -4);
        Due.is("NONE", SparseChecks.NONE, -9);
    }

    private static void refusedOnANewObject() {
        Supplier<SparseChecks> made = EdgesRefusedTest::newOne;
        refused("write -1", made, BAD, x -> x.write(-1));
        refused("write 256", made, BAD, x -> x.write(256));
        refused("code", made, LATE, x -> x.code());
        refused("about -1", made, BAD, x -> x.about(-1));
        refused("about 17", made, BAD, x -> x.about(17));
        refused("bit 2", made, UNKNOWN, x -> x.bit(2, 0));
        refused("bit 0 3", made, BAD, x -> x.bit(0, 3));
        refused("check 0", made, UNKNOWN, x -> x.check(0));
        refused("message 0 0", made, UNKNOWN, x -> x.message(0, 0));
        refused("level 2", made, UNKNOWN, x -> x.level(2, 1));
        refused("level 0 32", made, BAD, x -> x.level(0, 32));
        refused("round 0", made, BAD, x -> x.round(0));
        refused("round 100", made, BAD, x -> x.round(100));
        refused("put 0 0", made, UNKNOWN, x -> x.put(0, 0));
        refused("grow 0 1", made, BAD, x -> x.grow(0, 1));
        refused("offset 10", made, BAD, x -> x.offset(10));
        refused("undo", made, LATE, x -> x.undo());
        refused("traps 3", made, BAD, x -> x.traps(3, 0, 0));
        refused("same 1", made, BAD, x -> x.same(1));
        refused("judge 0", made, BAD, x -> x.judge(0, 500L));
        refused("see 21", made, BAD, x -> x.see(21, 0));
        refused("share 0", made, UNKNOWN, x -> x.share(0, true));
        refused("chance 0", made, BAD, x -> x.chance(0, 0, true));
        refused("drawn 0", made, BAD, x -> x.drawn(0));
        refused("keep 2", made, UNKNOWN, x -> x.keep(2));
        refused("again 0", made, LATE, x -> x.again(0));
        refused("again 1", made, LATE, x -> x.again(1));
    }

    private static void refusedOnACode() {
        Supplier<SparseChecks> made = EdgesRefusedTest::coded;
        refused("code", made, LATE, x -> x.code());
        refused("bit 3", made, UNKNOWN, x -> x.bit(3, 0));
        refused("check 2", made, UNKNOWN, x -> x.check(2));
        refused("message 0 3", made, UNKNOWN, x -> x.message(0, 3));
        refused("message 2 0", made, UNKNOWN, x -> x.message(2, 0));
        refused("level 3", made, UNKNOWN, x -> x.level(3, 1));
        refused("level -32", made, BAD, x -> x.level(2, -32));
        refused("round -1", made, BAD, x -> x.round(-1));
        refused("put 2 0", made, UNKNOWN, x -> x.put(2, 0));
        refused("put 0 3", made, UNKNOWN, x -> x.put(0, 3));
        refused("put -1 -1", made, UNKNOWN, x -> x.put(-1, -1));
        refused("grow 3 1", made, UNKNOWN, x -> x.grow(3, 1));
        refused("grow 0 3", made, BAD, x -> x.grow(0, 3));
        refused("grow 0 0", made, BAD, x -> x.grow(0, 0));
        refused("offset -1", made, BAD, x -> x.offset(-1));
        refused("traps 0", made, BAD, x -> x.traps(0, 0, 0));
        refused("traps 4", made, BAD, x -> x.traps(4, 0, 0));
        refused("traps b 7", made, BAD, x -> x.traps(1, 7, 0));
        refused("traps what 2", made, BAD, x -> x.traps(1, 0, 2));
        // Some of the figures are a ROW, so that a ROW half taken would be felt.
        refused("same 0", made, BAD, x -> x.same(0));
        refused("same 11", made, BAD, x -> x.same(11));
        refused("same 110", made, BAD, x -> x.same(110));
        refused("same 20", made, BAD, x -> x.same(20));
        refused("judge 1 1000", made, BAD, x -> x.judge(1, 1000L));
        refused("judge 5", made, BAD, x -> x.judge(5, 200L));
        refused("judge -1", made, BAD, x -> x.judge(1, -1L));
        refused("see -1", made, BAD, x -> x.see(-1, 0));
        refused("see 64", made, BAD, x -> x.see(0, 64));
        refused("share 2", made, UNKNOWN, x -> x.share(2, false));
        refused("chance 32", made, BAD, x -> x.chance(32, 0, true));
        refused("chance 1 11", made, BAD, x -> x.chance(1, 11, true));
        refused("drawn 21", made, BAD, x -> x.drawn(21));
        refused("keep -1", made, UNKNOWN, x -> x.keep(-1));
        refused("again 2", made, UNKNOWN, x -> x.again(2));
        refused("again 0", made, LATE, x -> x.again(0));
    }

    private static void refusedWhenAllIsFull() {
        Supplier<SparseChecks> made = EdgesRefusedTest::full;
        refused("write 0", made, FULL, x -> x.write(0));
        refused("write 255", made, FULL, x -> x.write(255));
        refused("write 256", made, BAD, x -> x.write(256));
        refused("code", made, LATE, x -> x.code());
        refused("bit 9", made, UNKNOWN, x -> x.bit(9, 0));
        refused("check 6", made, UNKNOWN, x -> x.check(6));
        refused("message 6 9", made, UNKNOWN, x -> x.message(6, 9));
        refused("level 9", made, UNKNOWN, x -> x.level(9, 0));
        refused("level 32", made, BAD, x -> x.level(8, 32));
        refused("round 100", made, BAD, x -> x.round(100));
        refused("put 6 0", made, UNKNOWN, x -> x.put(6, 0));
        refused("put 0 9", made, UNKNOWN, x -> x.put(0, 9));
        refused("grow 9 1", made, UNKNOWN, x -> x.grow(9, 1));
        refused("grow 8 7", made, BAD, x -> x.grow(8, 7));
        refused("offset 10", made, BAD, x -> x.offset(10));
        refused("traps 10", made, BAD, x -> x.traps(10, 0, 0));
        refused("same 012344", made, BAD, x -> x.same(12344));
        refused("same 543211", made, BAD, x -> x.same(543211));
        refused("judge 4", made, BAD, x -> x.judge(4, 1000000000000L));
        refused("see 0 0", made, FULL, x -> x.see(0, 0));
        refused("see 20 63", made, FULL, x -> x.see(20, 63));
        refused("see 21 0", made, BAD, x -> x.see(21, 0));
        refused("share 6", made, UNKNOWN, x -> x.share(6, true));
        refused("chance 1 -1", made, BAD, x -> x.chance(1, -1, true));
        refused("drawn -1", made, BAD, x -> x.drawn(-1));
        refused("keep 2", made, UNKNOWN, x -> x.keep(2));
        refused("again -1", made, UNKNOWN, x -> x.again(-1));
    }

    private static void unknownComesAheadOfBad() {
        Due.sentence("REFUSALS, of several the first that a call names (in just that row): bit, level, grow: UNKNOWN; BAD");
        int[] no = {-1, 3, LOWEST, HIGHEST};
        int[] bad = {-32, 32, LOWEST, HIGHEST};
        SparseChecks x = coded();
        for (int bit : no) {
            for (int second : bad) {
                Due.is("bit", x.bit(bit, second), UNKNOWN);
                Due.is("level", x.level(bit, second), UNKNOWN);
                Due.is("grow", x.grow(bit, second), UNKNOWN);
            }
            Due.is("grow without CHECKS", new SparseChecks().grow(bit, 0), UNKNOWN);
        }
        for (int second : bad) {
            Due.is("bit", x.bit(0, second), BAD);
            Due.is("level", x.level(0, second), BAD);
            Due.is("grow", x.grow(0, second), BAD);
        }
    }

    private static void unknownComesAheadOfLate() {
        Due.sentence("REFUSALS, of several the first that a call names (in just that row): again: UNKNOWN; LATE");
        SparseChecks x = newOne();
        Due.is("again 2", x.again(2), UNKNOWN);
        Due.is("again -1", x.again(-1), UNKNOWN);
        Due.is("again 1", x.again(1), LATE);
    }

    private static void badComesAheadOfFull() {
        Due.sentence("REFUSALS, of several the first that a call names (in just that row): write, see: BAD; FULL");
        SparseChecks x = full();
        Due.is("write -1", x.write(-1), BAD);
        Due.is("write 256", x.write(256), BAD);
        Due.is("write 0", x.write(0), FULL);
        Due.is("see -1 0", x.see(-1, 0), BAD);
        Due.is("see 0 -1", x.see(0, -1), BAD);
        Due.is("see 21 0", x.see(21, 0), BAD);
        Due.is("see 0 64", x.see(0, 64), BAD);
        Due.is("see 0 0", x.see(0, 0), FULL);
    }

    private static int rowOfAll(SparseChecks x) {
        int row = 0;
        for (int check = x.about(1) - 1; check >= 0; check--) {
            row = 10 * row + check;
        }
        return row;
    }

    private static void askedChangesNothing(Supplier<SparseChecks> made) {
        Due.sentence("In what follows nothing is changed");
        for (int what = 0; what <= 16; what++) {
            int which = what;
            changesNothing("about " + what, made, x -> x.about(which));
        }
        changesNothing("fault", made, x -> x.fault());
        changesNothing("bit", made, x -> x.bit(1, 0) + x.bit(1, 1) + x.bit(1, 2));
        changesNothing("check", made, x -> x.check(0));
        changesNothing("message", made, x -> x.message(0, 0));
        changesNothing("traps", made, x -> x.traps(2, 1, 0) + x.traps(2, 1, 1));
        changesNothing("same", made, x -> x.same(rowOfAll(x)));
        changesNothing("judge ROUNDS", made, x -> x.judge(4, 200199101500L));
        changesNothing("judge PUT", made, x -> x.judge(4, 300311709199L));
        changesNothing("judge what can not be", made, x -> x.judge(4, 709199200999L));
        changesNothing("which", made, x -> x.which());
        changesNothing("share", made, x -> x.share(0, true) + x.share(0, false));
        changesNothing("chance", made, x -> x.chance(31, 5, true) + x.chance(1, 5, false));
        changesNothing("seed there and back", made, x -> x.seed(x.seed(99L)));
    }
}
