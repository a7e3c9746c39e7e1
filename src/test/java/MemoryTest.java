import com.sun.management.ThreadMXBean;
import java.lang.management.ManagementFactory;
import java.lang.reflect.Array;
import java.lang.reflect.Field;
import java.lang.reflect.Modifier;
import java.util.ArrayDeque;
import java.util.Collections;
import java.util.IdentityHashMap;
import java.util.Set;

/** All memory is the class's own, made once: an object is small enough, and its calls make nothing more. */
public final class MemoryTest {
    private static final int MOST_OBJECTS = 1000;
    /** A hundred objects stay within the room of 7.3 million fields and elements. */
    private static final int MOST_ELEMENTS = 73000;
    /** Each with a rule and a drop beside it, so that an object's 512 calls suffice. */
    private static final int ASKED = 160;
    /** Less than the smallest object for each; the measuring itself may take some. */
    private static final long MOST_BYTES = 8 * ASKED;
    private static final String[] KINDS = {"rule and drop", "trees", "sized", "least", "strings", "ambiguous", "from",
        "begins", "first", "follow", "look"};

    private static final ThreadMXBean THREADS = (ThreadMXBean) ManagementFactory.getThreadMXBean();

    private final Check check = new Check();
    private int objects;
    private long elements;

    public static void main(String[] args) throws IllegalAccessException {
        MemoryTest test = new MemoryTest();
        test.check.sentence("Terms", "All memory is the class's own, made once");
        test.sizeOfObject();
        for (int kind = 0; kind < KINDS.length; kind++) {
            test.callsMakeNothing(kind);
        }
        test.check.finish();
    }

    /** Counted before and behind calls: what is kept does not grow. */
    private void sizeOfObject() throws IllegalAccessException {
        TreeCount x = new TreeCount();
        count(x);
        int made = objects;
        long held = elements;
        check.due(made + " objects and arrays are few", true, made <= MOST_OBJECTS);
        check.due(held + " fields and elements are few", true, held <= MOST_ELEMENTS);
        useFully(x, 0);
        count(x);
        check.due("objects and arrays behind calls", made, objects);
        check.due("fields and elements behind calls", held, elements);
    }

    private void callsMakeNothing(int kind) {
        useFully(new TreeCount(), kind);
        TreeCount x = new TreeCount();
        long before = bytes();
        useFully(x, kind);
        long made = bytes() - before;
        check.due(KINDS[kind] + ": calls that made " + made + " bytes made none", true, made < MOST_BYTES);
    }

    private static long bytes() {
        return THREADS.getThreadAllocatedBytes(Thread.currentThread().getId());
    }

    /** Calls of one kind, each behind a change of the rules. */
    private static long useFully(TreeCount x, int kind) {
        long sum = 0;
        for (int a = 4; a <= 11; a++) {
            x.rule(a, a % 3 + 1);
            x.rule(a, 0);
        }
        for (int n = 0; n < ASKED; n++) {
            int left = 4 + n % 8;
            sum += x.rule(left, left | (4 + (n + 1) % 8) << 4 | 1 << 8);
            sum += ask(x, kind, n);
            sum += x.drop(n % 16);
        }
        return sum;
    }

    private static long ask(TreeCount x, int kind, int n) {
        switch (kind) {
            case 1:
                return x.trees(4 + n % 8, 0x5555);
            case 2:
                return x.sized(0x6566, 30);
            case 3:
                return x.least(0x5575);
            case 4:
                return x.strings(6);
            case 5:
                return x.ambiguous(6);
            case 6:
                return x.from(0x3FF);
            case 7:
                return x.begins(0x7555) ? 1 : 0;
            case 8:
                return x.first(4 + n % 8);
            case 9:
                return x.follow(4 + n % 8);
            case 10:
                return x.look(n % 7);
            default:
                return 0;
        }
    }

    /** All that an object holds, itself included. */
    private void count(Object root) throws IllegalAccessException {
        objects = 0;
        elements = 0;
        Set<Object> seen = Collections.newSetFromMap(new IdentityHashMap<>());
        ArrayDeque<Object> open = new ArrayDeque<>();
        open.add(root);
        seen.add(root);
        while (!open.isEmpty()) {
            Object one = open.remove();
            objects++;
            for (Object part : one.getClass().isArray() ? partsOfArray(one) : partsOfObject(one)) {
                if (part != null && seen.add(part)) {
                    open.add(part);
                }
            }
        }
    }

    private Object[] partsOfArray(Object array) {
        elements += Array.getLength(array);
        return array instanceof Object[] ? (Object[]) array : new Object[0];
    }

    private Object[] partsOfObject(Object one) throws IllegalAccessException {
        ArrayDeque<Object> parts = new ArrayDeque<>();
        for (Class<?> of = one.getClass(); of != Object.class; of = of.getSuperclass()) {
            for (Field field : of.getDeclaredFields()) {
                if (Modifier.isStatic(field.getModifiers())) {
                    continue;
                }
                elements++;
                field.setAccessible(true);
                if (!field.getType().isPrimitive() && field.get(one) != null) {
                    parts.add(field.get(one));
                }
            }
        }
        return parts.toArray();
    }
}
