import java.lang.reflect.Array;
import java.lang.reflect.Field;
import java.lang.reflect.Modifier;
import java.util.ArrayDeque;
import java.util.Deque;
import java.util.IdentityHashMap;
import java.util.Map;

/**
 * The room that a run of calls needs: LanguageTest sees to it that constructors alone make objects, so what one object
 * holds is all that it ever makes. A run that makes a new one with each call still finds room.
 */
public final class RoomTest {
    private static final int CALLS = 512;
    private static final int MOST_OBJECTS = 600_000;
    private static final int MOST_CELLS = 7_300_000;

    private final Map<Object, Boolean> seen = new IdentityHashMap<>();
    private final Deque<Object> left = new ArrayDeque<>();
    private int cells = 0;

    private void meet(Object object) {
        if (object != null && seen.put(object, true) == null) {
            left.add(object);
        }
    }

    private void walk(Object start) throws IllegalAccessException {
        meet(start);
        while (!left.isEmpty()) {
            Object object = left.remove();
            if (object.getClass().isArray()) {
                elements(object);
            } else {
                fields(object);
            }
        }
    }

    private void elements(Object array) {
        cells += Array.getLength(array);
        if (array instanceof Object[] objects) {
            for (Object object : objects) {
                meet(object);
            }
        }
    }

    private void fields(Object object) throws IllegalAccessException {
        for (Field field : object.getClass().getDeclaredFields()) {
            if (!Modifier.isStatic(field.getModifiers())) {
                cells++;
                if (!field.getType().isPrimitive()) {
                    field.setAccessible(true);
                    meet(field.get(object));
                }
            }
        }
    }

    /** A bit of everything, so that what is made late would be seen. */
    private static LearningRepeater used() {
        LearningRepeater x = new LearningRepeater();
        for (int k = 0; k < 40; k++) {
            x.join(k % 8, (k + 1) % 8);
            x.frame(k % 8, 1 + k, k % 3 * k, k % 4);
            x.pass(1);
            x.keep();
            x.wouldGo(k % 8, 1 + k, 0);
            x.restore();
        }
        Checks.type(x, "1>2@3;4>*!3@5");
        x.readFrames();
        x.undo();
        return x;
    }

    public static void main(String[] args) throws IllegalAccessException {
        Checks checks = new Checks("RoomTest");
        checks.promise("room");
        RoomTest fresh = new RoomTest();
        fresh.walk(new LearningRepeater());
        RoomTest late = new RoomTest();
        late.walk(used());
        checks.due("objects and arrays after many calls", late.seen.size(), fresh.seen.size());
        checks.due("fields and elements after many calls", late.cells, fresh.cells);
        checks.due("whether there is room for " + CALLS + " times " + fresh.seen.size() + " objects and arrays,",
                CALLS * fresh.seen.size() <= MOST_OBJECTS ? 1 : 0, 1);
        checks.due("whether there is room for " + CALLS + " times " + fresh.cells + " fields and elements,",
                CALLS * fresh.cells <= MOST_CELLS ? 1 : 0, 1);
        System.out.println("RoomTest: an object needs " + fresh.seen.size() + " objects and arrays, " + fresh.cells
                + " fields and elements");
        checks.end();
    }
}
