import com.sun.management.ThreadMXBean;
import java.lang.management.ManagementFactory;
import java.lang.reflect.Array;
import java.lang.reflect.Field;
import java.lang.reflect.Modifier;
import java.util.ArrayDeque;
import java.util.Collections;
import java.util.Deque;
import java.util.IdentityHashMap;
import java.util.Set;

/** The room that a net takes: what it is made of, and that no call makes more of it. */
public final class RoomTest {
    // A room holds some 600,000 objects and 7.3 million fields and elements: with these bounds over 10,000 nets.
    private static final int MOST_OBJECTS = 40;
    private static final int MOST_ELEMENTS = 700;
    // The machine makes a little for itself; one row a tick would be a hundred times that.
    private static final long MOST_BYTES = 50_000;
    private static final int LAST_CALLS = 400;

    private final Check check = new Check("RoomTest");
    private int objects;
    private int elements;

    private void look(Object part, Deque<Object> open, Set<Object> seen) {
        if (part != null && seen.add(part)) {
            open.add(part);
        }
    }

    private void count(Object whole) throws IllegalAccessException {
        objects = 0;
        elements = 0;
        Set<Object> seen = Collections.newSetFromMap(new IdentityHashMap<>());
        Deque<Object> open = new ArrayDeque<>();
        look(whole, open, seen);
        while (!open.isEmpty()) {
            Object part = open.remove();
            objects++;
            if (part.getClass().isArray()) {
                countArray(part, open, seen);
            } else {
                countFields(part, open, seen);
            }
        }
    }

    private void countArray(Object row, Deque<Object> open, Set<Object> seen) {
        elements += Array.getLength(row);
        if (row instanceof Object[] parts) {
            for (Object part : parts) {
                look(part, open, seen);
            }
        }
    }

    private void countFields(Object part, Deque<Object> open, Set<Object> seen) throws IllegalAccessException {
        for (Field field : part.getClass().getDeclaredFields()) {
            if (!Modifier.isStatic(field.getModifiers())) {
                elements++;
                if (!field.getType().isPrimitive()) {
                    field.setAccessible(true);
                    look(field.get(part), open, seen);
                }
            }
        }
    }

    private static TimeNet allLinked() {
        TimeNet net = Nets.nodes(9, 8, 7, 6, 5, 4, 3, 2, 1, 0);
        for (int one = 0; one < 10; one++) {
            for (int other = one + 1; other < 10; other++) {
                net.link(one, other, one, other);
            }
        }
        return net;
    }

    private static void useUp(TimeNet net) {
        for (int call = 0; call < LAST_CALLS; call++) {
            switch (call % 8) {
                case 0: net.setOffset(call % 10, call); break;
                case 1: net.cut(3, 0); break;
                case 2: net.link(0, 3, 1, 2); break;
                case 3: net.tell(3, 0, 5); break;
                case 4: net.isSettled(); break;
                case 5: net.stepsByGraph(call % 10); break;
                case 6: net.spread(0); break;
                default: net.tick(50);
            }
        }
    }

    private void aNetIsSmall() throws IllegalAccessException {
        count(new TimeNet());
        check.due("12: objects of a net, " + objects + ", are few", objects <= MOST_OBJECTS, true);
        check.due("12: elements of a net, " + elements + ", are few", elements <= MOST_ELEMENTS, true);
    }

    private void aNetDoesNotGrow() throws IllegalAccessException {
        TimeNet net = new TimeNet();
        count(net);
        int objectsAtFirst = objects;
        int elementsAtFirst = elements;
        net = allLinked();
        useUp(net);
        count(net);
        check.due("12: objects after all calls", objects, objectsAtFirst);
        check.due("12: elements after all calls", elements, elementsAtFirst);
    }

    private void noCallMakesAnObject() {
        ThreadMXBean threads = (ThreadMXBean) ManagementFactory.getThreadMXBean();
        long self = Thread.currentThread().getId();
        useUp(allLinked());
        TimeNet net = allLinked();
        long before = threads.getThreadAllocatedBytes(self);
        useUp(net);
        long made = threads.getThreadAllocatedBytes(self) - before;
        check.due("12: what calls make, " + made + " bytes, is thrown away at once or nothing", made < MOST_BYTES, true);
    }

    public static void main(String[] args) throws IllegalAccessException {
        RoomTest test = new RoomTest();
        test.aNetIsSmall();
        test.aNetDoesNotGrow();
        test.noCallMakesAnObject();
        test.check.end();
    }
}
