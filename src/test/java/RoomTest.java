import com.sun.management.ThreadMXBean;
import java.lang.management.ManagementFactory;
import java.lang.reflect.Array;
import java.lang.reflect.Field;
import java.lang.reflect.Modifier;
import java.util.ArrayDeque;
import java.util.Collections;
import java.util.Deque;
import java.util.IdentityHashMap;
import java.util.Set;
import java.util.concurrent.CountDownLatch;

/** What a run needs: objects and elements (rule 12, and the one room), and calls that stand open (rules 8 and 11). */
public final class RoomTest {
    private static final Check CHECK = new Check("RoomTest");
    private static final int SAMPLES = 100, MOST_SAMPLES = 20_000;
    private static volatile boolean enough;
    private static volatile long unused;

    public static void main(String[] args) throws ReflectiveOperationException, InterruptedException {
        roomOfAnObject();
        noCallMakesAnObject();
        // Open calls that are no recursion are eight at most; those that are stay under 300 with all others.
        openCalls(0, 200, 299);
        openCalls(1, 1, 8);
        openCalls(2, 1, 8);
        openCalls(3, 200, 299);
        CHECK.finish();
    }

    private static void roomOfAnObject() throws ReflectiveOperationException {
        long[] room = room(new NestedDeeds());
        CHECK.due("12 few objects: " + room[0], room[0] < 60 ? 1 : 0, 1);
        CHECK.due("12 few elements: " + room[1], room[1] < 50_000 ? 1 : 0, 1);
    }

    /** Objects and arrays, and their fields and elements, that are reached from an object. */
    static long[] room(Object first) throws ReflectiveOperationException {
        Set<Object> seen = Collections.newSetFromMap(new IdentityHashMap<>());
        Deque<Object> open = new ArrayDeque<>();
        open.add(first);
        seen.add(first);
        long elements = 0;
        while (!open.isEmpty()) {
            Object one = open.remove();
            if (one.getClass().isArray()) {
                elements += Array.getLength(one);
                continue;
            }
            for (Class<?> part = one.getClass(); part != Object.class; part = part.getSuperclass()) {
                for (Field field : part.getDeclaredFields()) {
                    if (Modifier.isStatic(field.getModifiers())) {
                        continue;
                    }
                    elements++;
                    field.setAccessible(true);
                    Object held = field.get(one);
                    if (!field.getType().isPrimitive() && held != null && seen.add(held)) {
                        open.add(held);
                    }
                }
            }
        }
        return new long[] {seen.size(), elements};
    }

    /** The least of several rounds, since the machine may need something of its own while it warms up. */
    private static void noCallMakesAnObject() {
        ThreadMXBean threads = (ThreadMXBean) ManagementFactory.getThreadMXBean();
        if (!threads.isThreadAllocatedMemorySupported()) {
            return;
        }
        threads.setThreadAllocatedMemoryEnabled(true);
        long self = Thread.currentThread().getId();
        long least = Long.MAX_VALUE;
        for (int round = 0; round < 10; round++) {
            NestedDeeds x = new NestedDeeds();
            long ahead = threads.getThreadAllocatedBytes(self);
            for (int way = 0; way <= 3; way++) {
                everyCall(x, way);
            }
            least = Math.min(least, threads.getThreadAllocatedBytes(self) - ahead);
        }
        CHECK.due("12 bytes that calls make", least, 0);
    }

    private static void everyCall(NestedDeeds x, int way) {
        x.way(way);
        x.meter(7);
        int leaf = x.deed(0, 5);
        int like = x.chain(12, 9, 1, 2, leaf);
        int deed = x.deed(7, 3);
        x.enclose(deed, like - 9);
        x.enclose(deed, leaf);
        x.enclose(leaf, deed);
        unused += x.of(deed, 1) + x.part(deed, 0) + x.answer() + x.count(3) + x.byteAt(3);
        walks(x, deed);
        walks(x, like);
        walks(x, -1);
        x.tear();
        x.feed(0x6231286131L, 5);
        x.read();
        x.feed(0x29, 1);
        x.read();
    }

    private static void walks(NestedDeeds x, int deed) {
        unused += x.size(deed) + x.depth(deed) + x.worth(deed) + x.mark(deed) + x.alike(deed, deed - 1);
        unused += x.write(deed) + x.find(deed, 1, 1) + x.widest(deed, 1);
        unused += x.copy(deed) + x.thin(deed, 4) + x.order(deed);
    }

    /** Looks again and again how many calls of the class stand open while another thread walks as deep as it can. */
    private static void openCalls(int way, int least, int most) throws InterruptedException {
        CountDownLatch begun = new CountDownLatch(1);
        enough = false;
        Thread walks = new Thread(() -> deepWalks(way, begun));
        walks.start();
        begun.await();
        int seen = 0;
        for (int i = 0; i < SAMPLES || (seen < least && i < MOST_SAMPLES); i++) {
            seen = Math.max(seen, openCalls(walks.getStackTrace()));
            // A busy machine needs time to go on with the walks.
            Thread.sleep(1);
        }
        enough = true;
        walks.join();
        CHECK.due("8 calls open by WAY " + way + ": " + seen, seen >= least && seen <= most ? 1 : 0, 1);
    }

    private static int openCalls(StackTraceElement[] stack) {
        int open = 0;
        for (StackTraceElement call : stack) {
            open += call.getClassName().startsWith("NestedDeeds") ? 1 : 0;
        }
        return open;
    }

    /** Depth 300, where half of the visits are. */
    private static void deepWalks(int way, CountDownLatch begun) {
        while (!enough) {
            NestedDeeds x = new NestedDeeds();
            x.way(way);
            x.meter(300);
            int root = x.chain(287, 10, 1, 1, x.chain(13, 10, 1, 2, -1));
            begun.countDown();
            for (int i = 0; i < 50 && !enough; i++) {
                unused += x.size(root) + x.worth(root) + x.mark(root) + x.write(root) + x.order(root);
            }
        }
    }
}
