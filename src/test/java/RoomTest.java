import java.lang.reflect.Array;
import java.lang.reflect.Field;
import java.lang.reflect.Modifier;
import java.util.ArrayDeque;
import java.util.Collections;
import java.util.Deque;
import java.util.IdentityHashMap;
import java.util.Set;

/** What an object takes of the room that all calls of a run live in: few objects and arrays, and not many elements. */
public final class RoomTest {
    private static final int MOST_CALLS = 512;
    private static final int MOST_OBJECTS = 100, MOST_ELEMENTS = 10_000;
    private static final Due due = new Due();

    private final Set<Object> seen = Collections.newSetFromMap(new IdentityHashMap<>());
    private final Deque<Object> toSee = new ArrayDeque<>();
    private int elements;

    public static void main(String[] args) throws IllegalAccessException {
        TuneSchool fresh = new TuneSchool();
        RoomTest first = new RoomTest();
        first.see(fresh);
        hold("a new object", first, MOST_OBJECTS, MOST_ELEMENTS);

        TuneSchool used = new TuneSchool();
        useAll(used);
        RoomTest last = new RoomTest();
        last.see(used);
        hold("a used object", last, MOST_OBJECTS + 3 * MOST_CALLS, MOST_ELEMENTS + 20 * MOST_CALLS);
        due.end();
    }

    private static void hold(String what, RoomTest room, int objects, int elements) {
        if (room.seen.size() > objects || room.elements > elements) {
            System.out.println(what + " has " + room.seen.size() + " objects, " + room.elements + " elements");
        }
        due.is(1, room.seen.size() <= objects ? 1 : 0);
        due.is(1, room.elements <= elements ? 1 : 0);
    }

    /** As many RULES as can be held at once: seated, and kept by FAULTS that are noted. */
    private static void useAll(TuneSchool x) {
        for (int v = 0; v < 6; v++) {
            Tunes.voice(x, v, v + 1 + ":8");
        }
        x.strong(1);
        for (int r = 1; r < 16; r++) {
            x.school(r, 0, 8);
            for (int k = 0; k < 8; k++) {
                x.rule(0, 3);
                x.seat(r, k, 0);
            }
        }
        due.is(15 * 8 * 8, x.faults(15));
    }

    private void see(Object first) throws IllegalAccessException {
        add(first);
        while (!toSee.isEmpty()) {
            Object one = toSee.pop();
            if (one.getClass().isArray()) {
                seeArray(one);
            } else {
                seeFields(one);
            }
        }
    }

    private void add(Object one) {
        if (one != null && seen.add(one)) {
            toSee.push(one);
        }
    }

    private void seeArray(Object array) {
        elements += Array.getLength(array);
        for (int i = 0; i < Array.getLength(array) && !array.getClass().getComponentType().isPrimitive(); i++) {
            add(Array.get(array, i));
        }
    }

    private void seeFields(Object one) throws IllegalAccessException {
        for (Class<?> of = one.getClass(); of != Object.class; of = of.getSuperclass()) {
            for (Field field : of.getDeclaredFields()) {
                if (Modifier.isStatic(field.getModifiers())) {
                    continue;
                }
                elements++;
                field.setAccessible(true);
                if (!field.getType().isPrimitive()) {
                    add(field.get(one));
                }
            }
        }
    }
}
