import com.sun.management.ThreadMXBean;
import java.lang.management.ManagementFactory;

/** All memory is made once: an object is small enough, and its calls make nothing more. */
public final class MemoryTest {
    /** In bytes, so that a hundred objects stay within the room of 7.3 million elements. */
    private static final long MOST_FOR_OBJECT = 400000;
    /** What the measuring itself and the machine's own books may take. */
    private static final long MOST_FOR_CALLS = 20000;

    private static final ThreadMXBean THREADS = (ThreadMXBean) ManagementFactory.getThreadMXBean();

    public static void main(String[] args) {
        Check check = new Check();
        useFully(new TreeCount());
        long start = bytes();
        TreeCount x = new TreeCount();
        long made = bytes();
        useFully(x);
        long used = bytes();
        check.due("an object of " + (made - start) + " bytes is small", true, made - start < MOST_FOR_OBJECT);
        check.due("calls that made " + (used - made) + " bytes made none", true, used - made < MOST_FOR_CALLS);
        check.finish();
    }

    private static long bytes() {
        return THREADS.getThreadAllocatedBytes(Thread.currentThread().getId());
    }

    /** Some 500 calls, each behind a change of the rules. */
    private static long useFully(TreeCount x) {
        long sum = 0;
        for (int a = 4; a <= 11; a++) {
            x.rule(a, a % 3 + 1);
            x.rule(a, 0);
        }
        for (int n = 0; n < 50; n++) {
            int left = 4 + n % 8;
            int next = 4 + (n + 1) % 8;
            sum += x.rule(left, left | next << 4 | 1 << 8);
            sum += x.trees(left, 0x5555) + x.sized(0x6566, 30) + x.least(0x5575);
            sum += x.strings(6) + x.ambiguous(6) + x.from(0x3FF) + (x.begins(0x7555) ? 1 : 0);
            sum += x.first(left) + x.follow(next) + x.look(n % 7) + x.drop(n % 16);
        }
        return sum;
    }
}
