import java.lang.reflect.Array;
import java.lang.reflect.Field;
import java.lang.reflect.Modifier;
import java.util.ArrayDeque;
import java.util.Collections;
import java.util.Deque;
import java.util.IdentityHashMap;
import java.util.Set;

/**
 * An object with all its rows is a small part of the room of a run. LanguageTest sees that later calls make no more,
 * but for the exceptions that they throw.
 */
public final class RoomTest {
    private static final int MOST_OBJECTS = 200;
    private static final int MOST_ELEMENTS = 80_000;

    private final Set<Object> found = Collections.newSetFromMap(new IdentityHashMap<>());
    private final Deque<Object> toLookAt = new ArrayDeque<>();
    private int elements;

    public static void main(String[] args) throws IllegalAccessException {
        QuantityQuarry x = Samples.parties(4);
        RoomTest room = new RoomTest();
        room.find(x);
        while (!room.toLookAt.isEmpty()) {
            room.lookInto(room.toLookAt.poll());
        }
        Expect.same(true, room.found.size() > 4 && room.elements > 1000);
        Expect.same(room.found.size(), Math.min(room.found.size(), MOST_OBJECTS));
        Expect.same(room.elements, Math.min(room.elements, MOST_ELEMENTS));
        Expect.finish();
    }

    private void find(Object object) {
        if (object != null && found.add(object)) {
            toLookAt.add(object);
        }
    }

    private void lookInto(Object object) throws IllegalAccessException {
        if (object.getClass().isArray()) {
            int length = Array.getLength(object);
            elements += length;
            for (int i = 0; object instanceof Object[] && i < length; i++) {
                find(Array.get(object, i));
            }
            return;
        }
        for (Field field : object.getClass().getDeclaredFields()) {
            if (!Modifier.isStatic(field.getModifiers())) {
                elements++;
                if (!field.getType().isPrimitive()) {
                    field.setAccessible(true);
                    find(field.get(object));
                }
            }
        }
    }
}
