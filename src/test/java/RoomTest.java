import java.lang.management.ManagementFactory;
import java.lang.reflect.Array;
import java.lang.reflect.Field;
import java.lang.reflect.Modifier;
import java.util.ArrayDeque;
import java.util.Collections;
import java.util.Deque;
import java.util.IdentityHashMap;
import java.util.Set;

/** All calls of a run live in one room: an object is small, and its calls make nothing more. */
public final class RoomTest {
    private static final int MOST_OBJECTS = 600;
    private static final int MOST_ELEMENTS = 6000;

    private static final com.sun.management.ThreadMXBean METER =
        (com.sun.management.ThreadMXBean) ManagementFactory.getThreadMXBean();

    private static long seen = 0;

    private RoomTest() {
    }

    public static void main(String[] args) throws ReflectiveOperationException {
        AdapterBench bench = new AdapterBench();
        dueSize("new", bench);
        long least = Long.MAX_VALUE;
        for (int i = 0; i < 10; i++) {
            least = Math.min(least, bytesMadeBy(new AdapterBench()));
        }
        Check.due("bytes made by the calls of a run", least, 0);
        useAll(bench);
        dueSize("used", bench);
        Check.due("something was seen", seen != 0, true);
        Check.end("RoomTest");
    }

    /** Of many runs the least counts: what the machine makes at the first use of a call is none of ours. */
    private static long bytesMadeBy(AdapterBench bench) {
        long thread = Thread.currentThread().getId();
        long before = METER.getThreadAllocatedBytes(thread);
        useAll(bench);
        return METER.getThreadAllocatedBytes(thread) - before;
    }

    private static void useAll(AdapterBench x) {
        for (int i = 0; i < 54; i++) {
            seen += x.ask(i % 10, i % 3, 0_44433 - i % 5 * 0_1110);
            seen += x.offer(i % 10, i % 3, 0_44433);
        }
        for (int i = 0; i < 20; i++) {
            seen += x.rule(i % 7, (i + 1) % 7, 1 + i, 10010000) + x.object(i % 10) + x.hand(i % 4, i);
            seen += x.alias(i % 3, (i + 1) % 3, true) ? 1 : 0;
            seen += x.constant(i % 7, true, 0) + x.work(i % 10, i % 6, i % 3, i % 3, i) + x.times(i % 10, 0, 0, i);
        }
        for (int i = 0; i < 20; i++) {
            seen += x.fit(i % 10, i % 6, i, i % 6) + x.fits(i % 10, i) + x.gap(i % 10, i) + x.way(i % 10, i % 7, 0);
            seen += x.call(i, i % 10, i % 6) + x.through(i, i % 10, i % 7, i % 6) + x.put(i, i % 3, i) + x.field(i, 0);
            seen += x.turning(i % 7, 3, 2) + x.turn(i % 7, 3, 1) + x.value() + x.failed(0) + x.count(i % 8);
        }
        seen += x.drop(14) + x.strip(true, 4) + x.strip(false, 4);
    }

    private static void dueSize(String when, AdapterBench bench) throws ReflectiveOperationException {
        Set<Object> all = Collections.newSetFromMap(new IdentityHashMap<>());
        Deque<Object> open = new ArrayDeque<>();
        open.add(bench);
        long elements = 0;
        while (!open.isEmpty()) {
            Object one = open.remove();
            if (all.add(one)) {
                elements += one.getClass().isArray() ? walkArray(one, open) : walkFields(one, open);
            }
        }
        System.out.println("RoomTest: " + when + ": " + all.size() + " objects and arrays, " + elements
            + " fields and elements");
        Check.due(when + ": few objects", all.size() <= MOST_OBJECTS, true);
        Check.due(when + ": few elements", elements <= MOST_ELEMENTS, true);
    }

    private static int walkArray(Object array, Deque<Object> open) {
        if (array instanceof Object[] parts) {
            for (Object part : parts) {
                Check.due("no element is null", part == null, false);
                open.add(part);
            }
        }
        return Array.getLength(array);
    }

    private static int walkFields(Object one, Deque<Object> open) throws ReflectiveOperationException {
        int fields = 0;
        for (Field field : one.getClass().getDeclaredFields()) {
            if (!Modifier.isStatic(field.getModifiers())) {
                fields++;
                field.setAccessible(true);
                if (!field.getType().isPrimitive()) {
                    open.add(field.get(one));
                }
            }
        }
        return fields;
    }
}
