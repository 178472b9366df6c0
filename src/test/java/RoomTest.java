import java.lang.reflect.Array;
import java.lang.reflect.Field;
import java.lang.reflect.Modifier;
import java.util.ArrayDeque;
import java.util.Collections;
import java.util.Deque;
import java.util.IdentityHashMap;
import java.util.List;
import java.util.Set;

/** All calls of one run live in one room: what an object holds in the end leaves most of it free. */
public final class RoomTest {
    private static final int MOST_OBJECTS = 60_000;
    private static final int MOST_ELEMENTS = 730_000;

    public static void main(String[] args) throws IllegalAccessException {
        MissionDesk desk = new MissionDesk();
        int calls = busyRun(desk);
        Set<Object> held = held(desk);
        int elements = 0;
        for (Object object : held) {
            elements += size(object);
        }
        System.out.println("the room: " + held.size() + " objects with " + elements + " fields and elements behind "
                + calls + " calls");
        if (held.size() > MOST_OBJECTS || elements > MOST_ELEMENTS) {
            System.exit(1);
        }
    }

    /** Every kind of step, full lines, and several missions. */
    private static int busyRun(MissionDesk desk) {
        int calls = 0;
        for (int h = 0; h < 8; h++) {
            desk.handler(h, h % 3, h + 1, h, h + 1);
            desk.limit(h, h, 7 - h, 40);
            calls += 2;
            for (int op = 0; op < 10; op++) {
                desk.step(h, (op * 3 + h) % 10 == 8 ? 0 : (op * 3 + h) % 10, 1);
                calls++;
            }
        }
        for (int f = 0; f < 4; f++) {
            desk.frame(f, f + 1);
            desk.place(f, f);
            desk.place(f, 7);
            calls += 3;
        }
        while (calls < Script.CALLS_OF_AN_OBJECT - 4) {
            desk.begin(calls & 1, 100);
            desk.call(2);
            desk.run(20);
            if (calls % 5 == 0) {
                desk.stop();
            }
            calls += 4;
        }
        return calls;
    }

    private static Set<Object> held(Object root) throws IllegalAccessException {
        Set<Object> found = Collections.newSetFromMap(new IdentityHashMap<>());
        Deque<Object> toLookAt = new ArrayDeque<>();
        found.add(root);
        toLookAt.add(root);
        while (!toLookAt.isEmpty()) {
            Object object = toLookAt.remove();
            if (object instanceof Object[] row) {
                for (Object element : row) {
                    add(element, found, toLookAt);
                }
            } else if (object instanceof List<?> list) {
                for (Object element : list) {
                    add(element, found, toLookAt);
                }
            } else if (object.getClass().getName().startsWith("MissionDesk")) {
                for (Field field : object.getClass().getDeclaredFields()) {
                    if (!Modifier.isStatic(field.getModifiers()) && !field.getType().isPrimitive()) {
                        field.setAccessible(true);
                        add(field.get(object), found, toLookAt);
                    }
                }
            }
        }
        return found;
    }

    private static void add(Object object, Set<Object> found, Deque<Object> toLookAt) {
        if (object != null && found.add(object)) {
            toLookAt.add(object);
        }
    }

    private static int size(Object object) {
        if (object instanceof List<?> list) {
            return list.size();
        }
        return object.getClass().isArray() ? Array.getLength(object) : object.getClass().getDeclaredFields().length;
    }
}
