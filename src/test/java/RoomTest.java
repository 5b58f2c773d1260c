import java.lang.reflect.Array;
import java.lang.reflect.Field;
import java.lang.reflect.Modifier;
import java.util.ArrayDeque;
import java.util.Collections;
import java.util.Deque;
import java.util.IdentityHashMap;
import java.util.Set;

/** All that a run makes lives in one room: an object is small, and no call but filter() adds to what it keeps. */
public final class RoomTest {
    private static final int MOST_OBJECTS = 300;
    private static final int MOST_ELEMENTS = 12000;

    private final Set<Object> seen = Collections.newSetFromMap(new IdentityHashMap<>());
    private final Deque<Object> open = new ArrayDeque<>();
    private int elements = 0;

    private RoomTest(DarkRoom room) throws IllegalAccessException {
        open.push(room);
        seen.add(room);
        while (!open.isEmpty()) {
            lookInto(open.pop());
        }
    }

    public static void main(String[] args) throws IllegalAccessException {
        Check check = new Check();
        DarkRoom room = new DarkRoom();
        RoomTest fresh = new RoomTest(room);
        check.holds(fresh.seen.size() + " objects in a new room", fresh.seen.size() <= MOST_OBJECTS);
        check.holds(fresh.elements + " fields and elements in a new room", fresh.elements <= MOST_ELEMENTS);
        for (int f = 0; f < 24; f++) {
            check.due("filter", room.filter(4, 1 + f, 0), f);
        }
        RoomTest full = new RoomTest(room);
        check.due("two objects for each filter", full.seen.size() - fresh.seen.size(), 48);
        check.holds(full.elements + " fields and elements with all filters", full.elements <= MOST_ELEMENTS);
        useAll(room);
        RoomTest used = new RoomTest(room);
        check.due("objects after use", used.seen.size(), full.seen.size());
        check.due("fields and elements after use", used.elements, full.elements);
        full.seen.removeAll(used.seen);
        check.due("objects that use has replaced", full.seen.size(), 0);
        check.end();
    }

    private static void useAll(DarkRoom room) {
        for (int i = 0; i < 18; i++) {
            room.picture(i % 8, i % 2, 16, 16);
            room.feed(i % 8, 0, 0, 0x0123456789ABCDEFL * i, 8);
            room.put(i % 8, 3, 3, i);
            room.convert(i % 8, (i + 1) % 8, i % 2, 0);
            room.cut(i % 8, (i + 3) % 8, -1, -1, 9, 9, i % 4);
            room.turn(i % 8, (i + 5) % 8, i % 8);
            room.weight(i, i % 9, i);
            room.apply(i % 8, i, i % 4);
            room.mask(i % 6, 1, 1, true);
            room.maskOf(i % 6, i % 8, 0, i);
            room.maskBy(i % 6, (i + 1) % 6, i % 7);
            room.fill(i % 8, 0, 0, 9, i);
            room.dither(i % 8, 2 + i % 15);
            room.even(i % 8);
            room.seam(i % 8, -1);
            room.seamGoes(i % 8, 0);
            room.runs(i % 8, -1);
            room.byteTo(i % 2);
            room.read(i % 8);
            room.undo();
            room.undo();
            room.redo();
            room.count(2);
        }
    }

    private void lookInto(Object one) throws IllegalAccessException {
        if (one.getClass().isArray()) {
            elements += Array.getLength(one);
            for (int i = 0; i < Array.getLength(one) && !one.getClass().getComponentType().isPrimitive(); i++) {
                meet(Array.get(one, i));
            }
            return;
        }
        for (Field field : one.getClass().getDeclaredFields()) {
            if (!Modifier.isStatic(field.getModifiers())) {
                elements++;
                field.setAccessible(true);
                if (!field.getType().isPrimitive()) {
                    meet(field.get(one));
                }
            }
        }
    }

    private void meet(Object one) {
        if (one != null && seen.add(one)) {
            open.push(one);
        }
    }
}
