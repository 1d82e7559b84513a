import com.sun.management.ThreadMXBean;
import java.lang.management.ManagementFactory;
import java.lang.reflect.Array;
import java.lang.reflect.Field;
import java.lang.reflect.Modifier;
import java.util.Collections;
import java.util.IdentityHashMap;
import java.util.Set;

/** The room of one object: its rows are made by the constructor, and no call makes more. */
public final class RoomTest {
    private static final int MOST_OBJECTS = 100;
    private static final int MOST_ELEMENTS = 3000;
    private static final int MADE = 700;
    /** A round has 142 calls, and an object is used for at most 512. */
    private static final int ROUNDS = 3;
    /** What the measuring itself may take; one int for each call would be far more. */
    private static final long MOST_BYTES = 100_000;

    private static long objects = 0;
    private static long elements = 0;

    public static void main(String[] args) throws IllegalAccessException {
        roomOfOneObject();
        callsMakeNothing();
        Check.end();
    }

    private static void roomOfOneObject() throws IllegalAccessException {
        Check.about("room");
        add(new NoteThemes(), Collections.newSetFromMap(new IdentityHashMap<>()));
        Check.holds(objects + " objects and arrays", objects <= MOST_OBJECTS);
        Check.holds(elements + " fields and elements", elements <= MOST_ELEMENTS);
    }

    private static void add(Object one, Set<Object> seen) throws IllegalAccessException {
        if (one == null || !seen.add(one)) {
            return;
        }
        objects++;
        if (one.getClass().isArray()) {
            elements += Array.getLength(one);
            for (int i = 0; i < Array.getLength(one) && one instanceof Object[]; i++) {
                add(Array.get(one, i), seen);
            }
            return;
        }
        for (Field field : one.getClass().getDeclaredFields()) {
            if (!Modifier.isStatic(field.getModifiers())) {
                elements++;
                field.setAccessible(true);
                if (!field.getType().isPrimitive()) {
                    add(field.get(one), seen);
                }
            }
        }
    }

    private static void callsMakeNothing() {
        Check.about("room");
        ThreadMXBean threads = (ThreadMXBean) ManagementFactory.getThreadMXBean();
        NoteThemes[] made = new NoteThemes[MADE];
        for (int i = 0; i < MADE; i++) {
            made[i] = new NoteThemes();
        }
        long warm = allCalls(new NoteThemes());
        long thread = Thread.currentThread().getId();
        long before = threads.getThreadAllocatedBytes(thread);
        long sum = 0;
        for (int i = 0; i < MADE; i++) {
            sum += allCalls(made[i]);
        }
        long bytes = threads.getThreadAllocatedBytes(thread) - before;
        Check.holds("calls make " + bytes + " bytes", bytes <= MOST_BYTES);
        Check.holds("the calls did something", warm != 0 && sum != 0);
    }

    private static long allCalls(NoteThemes x) {
        long sum = 0;
        for (int round = 0; round < ROUNDS; round++) {
            sum += x.put(round % 30, round % 20) + x.put(round % 7, 3) + x.make(0) + x.make(1) + x.keep();
            sum += x.stick(round % 6, 0) + x.stick(1, 1) + x.unstick(1, 1) + x.vote(round % 6, 0, 4);
            sum += x.drag(0, round % 11, 5) + x.dragHeap(0, 1, 1) + x.belong(1, 0) + x.merge(0, 1) + x.set(0, round % 9);
            sum += x.type('1') + x.type(',') + x.type('1') + x.type('*') + x.load() + x.clearText();
            sum += x.undo() + x.restore() + x.undo() + x.undo() + x.takeOff(round % 20);
            for (int what = 0; what < 13; what++) {
                sum += x.note(0, what) + x.heap(0, what) + x.theme(0, what) + x.ifDragged(0, 3, 3, what) + x.count(what);
                sum += x.dots(0, what) + x.votes(0, what) + x.reachFor(what) + x.nearest(what);
            }
        }
        return sum;
    }
}
