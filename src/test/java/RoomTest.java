import java.lang.management.ManagementFactory;
import java.lang.reflect.Array;
import java.lang.reflect.Field;
import java.lang.reflect.Modifier;
import java.util.ArrayList;
import java.util.IdentityHashMap;
import java.util.List;

/** A new object is small, and no call makes objects: all calls of a run live in one room. */
public final class RoomTest {
    private static final int MOST_ELEMENTS = 40000;
    private static final int MOST_OBJECTS = 60;
    /** What the counting itself may need. */
    private static final long SOME_BYTES = 20000;

    public static void main(String[] args) throws IllegalAccessException {
        sizeOfNew();
        callsMakeNothing();
        Check.end();
    }

    private static void sizeOfNew() throws IllegalAccessException {
        IdentityHashMap<Object, Object> seen = new IdentityHashMap<>();
        List<Object> left = new ArrayList<>();
        left.add(new UnwindMill());
        int elements = 0;
        while (!left.isEmpty()) {
            Object one = left.remove(left.size() - 1);
            if (seen.put(one, one) != null) {
                continue;
            }
            if (one.getClass().isArray()) {
                elements += Array.getLength(one);
                continue;
            }
            for (Field f : one.getClass().getDeclaredFields()) {
                if (!Modifier.isStatic(f.getModifiers())) {
                    elements++;
                    f.setAccessible(true);
                    Object value = f.get(one);
                    if (value != null && !f.getType().isPrimitive()) {
                        left.add(value);
                    }
                }
            }
        }
        System.out.println("a new object: " + seen.size() + " objects and arrays, " + elements + " fields and elements");
        Check.due("few elements", elements < MOST_ELEMENTS, true);
        Check.due("few objects", seen.size() < MOST_OBJECTS, true);
    }

    private static void callsMakeNothing() {
        Maker m = new Maker();
        int some = m.attempt(m.sequence(m.call(0), m.leave()), m.taking(1, 9, 0, m.putNumber(3)), m.putNumber(4));
        m.bodyOf(0, m.loop(m.number(1), m.sequence(some, some, m.attempt(m.stop(), -1, some))));
        com.sun.management.ThreadMXBean threads = (com.sun.management.ThreadMXBean) ManagementFactory.getThreadMXBean();
        long own = Thread.currentThread().getId();
        everyCall(m.x);
        long before = threads.getThreadAllocatedBytes(own);
        for (int i = 0; i < 50; i++) {
            everyCall(m.x);
        }
        long after = threads.getThreadAllocatedBytes(own);
        System.out.println("600 calls made " + (after - before) + " bytes");
        Check.due("calls make nothing", after - before < SOME_BYTES, true);
    }

    private static void everyCall(UnwindMill x) {
        x.node(99, 0, 0, 0, 0);
        x.catchBehind(0, 0, 0, 0, 0);
        x.body(1, -1);
        x.lay(false);
        x.laid(0);
        x.instruction(0, 0);
        x.entry(0);
        x.row(0, 0);
        x.run(0);
        x.latest(0);
        x.out(0);
        x.variable(0);
    }
}
