import java.lang.management.ManagementFactory;
import java.lang.reflect.Array;
import java.lang.reflect.Field;
import java.lang.reflect.Modifier;
import java.util.Collections;
import java.util.IdentityHashMap;
import java.util.Set;

/** Rule 12 of LANGUAGE.md: what an object makes is little, and all of it is made in its constructor. */
final class RoomTest {
    private static final int MOST_OBJECTS = 100;
    private static final int MOST_ELEMENTS = 10_000;
    private static final int CALLS = 512;

    private final Set<Object> seen = Collections.newSetFromMap(new IdentityHashMap<>());
    private int elements;

    public static void main(String[] args) throws IllegalAccessException {
        Check check = new Check();
        isSmall(check, "a new object", new GoalScanner());
        isSmall(check, "an object after 512 calls", usedUp());
        makesNothing(check);
        check.end();
    }

    private static void isSmall(Check check, String what, GoalScanner x) throws IllegalAccessException {
        RoomTest room = new RoomTest();
        room.visit(x);
        check.due(what + " is made of few objects, " + room.seen.size(), room.seen.size() <= MOST_OBJECTS, true);
        check.due(what + " has few fields and elements, " + room.elements, room.elements <= MOST_ELEMENTS, true);
    }

    /** Counts an object or array with all that it holds. */
    private void visit(Object each) throws IllegalAccessException {
        if (each == null || !seen.add(each)) {
            return;
        }
        if (each.getClass().isArray()) {
            elements += Array.getLength(each);
            for (int i = 0; i < Array.getLength(each) && !each.getClass().getComponentType().isPrimitive(); i++) {
                visit(Array.get(each, i));
            }
            return;
        }
        for (Field field : each.getClass().getDeclaredFields()) {
            if (!Modifier.isStatic(field.getModifiers())) {
                elements++;
                field.setAccessible(true);
                visit(field.getType().isPrimitive() ? null : field.get(each));
            }
        }
    }

    private static GoalScanner usedUp() {
        GoalScanner x = new GoalScanner();
        useUp(x);
        return x;
    }

    /** 512 calls, among them the heaviest. */
    private static void useUp(GoalScanner x) {
        Build build = new Build(x, "aaaaaaaaaaaaaaaaaaaaaaaa");
        int heavy = build.heavy(2000);
        int wide = build.upTo63();
        int made = 24 + x.count(0) + 1;
        for (int call = made; call < CALLS - 2; call++) {
            switch (call % 8) {
                case 0 -> x.evaluate(heavy);
                case 1 -> x.attempt(wide);
                case 2 -> x.evaluate(wide);
                case 3 -> x.result(63);
                case 4 -> x.variable(63, 3);
                case 5 -> x.node(16, wide, heavy, 0);
                case 6 -> x.type('a');
                default -> x.count(3);
            }
        }
        x.wipe();
        x.clear();
    }

    private static void makesNothing(Check check) {
        // This bean can count what a thread makes; the plain one of the platform cannot.
        if (!(ManagementFactory.getThreadMXBean() instanceof com.sun.management.ThreadMXBean counter)
            || !counter.isThreadAllocatedMemorySupported()) {
            return;
        }
        // Once without counting: what the machine makes when it loads a class is not the program's.
        useUp(new GoalScanner());
        counter.getThreadAllocatedBytes(Thread.currentThread().getId());
        GoalScanner x = new GoalScanner();
        long before = counter.getThreadAllocatedBytes(Thread.currentThread().getId());
        useUp(x);
        long after = counter.getThreadAllocatedBytes(Thread.currentThread().getId());
        check.due("512 calls make few bytes, " + (after - before), after - before < 1000, true);
    }
}
