import java.lang.reflect.Array;
import java.lang.reflect.Field;
import java.lang.reflect.Modifier;
import java.util.Collections;
import java.util.IdentityHashMap;
import java.util.Set;

/** An arena is small enough that each of 512 calls of one run could make a new one, and it does not grow. */
public final class RoomTest {
    private static final long CALLS = 512;
    private static final long ROOM_FOR_OBJECTS = 600_000;
    private static final long ROOM_FOR_PARTS = 7_300_000;

    private final Set<Object> seen = Collections.newSetFromMap(new IdentityHashMap<>());
    private long parts = 0;

    public static void main(String[] args) throws IllegalAccessException {
        TickArena arena = new TickArena();
        RoomTest before = new RoomTest();
        before.count(arena);
        Due.is("512 arenas fit as objects", before.seen.size() * CALLS <= ROOM_FOR_OBJECTS, true);
        Due.is("512 arenas fit as fields and elements", before.parts * CALLS <= ROOM_FOR_PARTS, true);
        use(arena);
        RoomTest after = new RoomTest();
        after.count(arena);
        Due.is("objects behind many calls", after.seen.size(), before.seen.size());
        Due.is("fields and elements behind many calls", after.parts, before.parts);
        Due.end();
    }

    private static void use(TickArena arena) {
        for (int i = 0; i < 20; i++) {
            int handle = arena.create(100 * i, 10);
            arena.shape(handle, 200, 200);
            arena.speed(handle, 3 * i, -7);
            arena.timer(handle, 50 + i);
            arena.tick(9);
            arena.replay();
            arena.save();
            arena.load();
        }
    }

    private void count(Object object) throws IllegalAccessException {
        if (object == null || !seen.add(object)) {
            return;
        }
        if (object.getClass().isArray()) {
            countElements(object);
        } else {
            countFields(object);
        }
    }

    private void countElements(Object row) throws IllegalAccessException {
        int length = Array.getLength(row);
        parts += length;
        for (int i = 0; i < length && !row.getClass().getComponentType().isPrimitive(); i++) {
            count(Array.get(row, i));
        }
    }

    private void countFields(Object object) throws IllegalAccessException {
        for (Field field : object.getClass().getDeclaredFields()) {
            if (!Modifier.isStatic(field.getModifiers())) {
                parts++;
                field.setAccessible(true);
                if (!field.getType().isPrimitive()) {
                    count(field.get(object));
                }
            }
        }
    }
}
