import com.sun.management.ThreadMXBean;
import java.lang.management.ManagementFactory;

/** A new object takes little room, and no call takes any. */
public final class RoomTest {
    /** The whole room holds some 7.3 million fields and elements; a run of 512 calls on one object stays far below. */
    private static final long MOST_BYTES_OF_AN_OBJECT = 16000;
    private static final long MOST_BYTES_OF_ALL_CALLS = 20000;

    public static void main(String[] args) {
        ThreadMXBean threads = (ThreadMXBean) ManagementFactory.getThreadMXBean();
        long sum = allCalls(new SparseChecks());
        SparseChecks[] made = new SparseChecks[100];
        long ahead = threads.getCurrentThreadAllocatedBytes();
        for (int i = 0; i < made.length; i++) {
            made[i] = new SparseChecks();
        }
        long behind = threads.getCurrentThreadAllocatedBytes();
        Due.holds("an object is small: " + (behind - ahead) / 100, behind - ahead < MOST_BYTES_OF_AN_OBJECT * 100);
        ahead = threads.getCurrentThreadAllocatedBytes();
        for (SparseChecks x : made) {
            sum += allCalls(x);
        }
        behind = threads.getCurrentThreadAllocatedBytes();
        Due.holds("calls make nothing: " + (behind - ahead), behind - ahead < MOST_BYTES_OF_ALL_CALLS);
        Due.holds("the same answers", sum % 101 == 0);
        Due.end();
    }

    private static long allCalls(SparseChecks x) {
        long sum = x.wipe();
        String text = "C90c0123.c1245.c2367.c0478.c1568.c03468.";
        for (int i = 0; i < text.length(); i++) {
            sum += x.write(text.charAt(i));
        }
        sum += x.fault() + x.code();
        for (int bit = 0; bit < 9; bit++) {
            sum += x.level(bit, bit * 5 % 13 - 4) + x.bit(bit, 2);
        }
        sum += x.begin() + x.round(3) + x.put(0, 8) + x.grow(5, 4) + x.offset(1) + x.undo() + x.check(0);
        sum += x.message(0, 1) + x.traps(3, 2, 0) + x.same(543210) + x.judge(4, 200105300500L);
        sum += x.see(1, 3) + x.which() + x.unsee() + x.share(2, true) + x.chance(7, 2, true);
        sum += x.seed(4L) + x.drawn(20) + x.keep(0) + x.again(0) + x.seed(0L) % 1000;
        for (int what = 0; what < 17; what++) {
            sum += x.about(what);
        }
        return sum;
    }
}
