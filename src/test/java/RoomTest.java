import java.lang.reflect.Array;
import java.lang.reflect.Field;
import java.lang.reflect.Modifier;
import java.util.ArrayDeque;
import java.util.Collections;
import java.util.Deque;
import java.util.IdentityHashMap;
import java.util.Set;

/** All calls of a run live in one room: what an object takes of it, and that its calls take no more. */
public final class RoomTest {
    private static final long OBJECTS_OF_THE_ROOM = 600_000;
    private static final long ELEMENTS_OF_THE_ROOM = 7_300_000;
    private static final long MOST_CALLS = 512;

    private long objects = 0;
    private long elements = 0;

    private RoomTest(Object start) {
        Set<Object> seen = Collections.newSetFromMap(new IdentityHashMap<>());
        Deque<Object> open = new ArrayDeque<>();
        reach(start, seen, open);
        while (!open.isEmpty()) {
            count(open.pop(), seen, open);
        }
        objects = seen.size();
    }

    private static void reach(Object next, Set<Object> seen, Deque<Object> open) {
        if (next != null && seen.add(next)) {
            open.push(next);
        }
    }

    private void count(Object here, Set<Object> seen, Deque<Object> open) {
        if (here.getClass().isArray()) {
            elements += Array.getLength(here);
            for (int i = 0; here instanceof Object[] && i < Array.getLength(here); i++) {
                reach(Array.get(here, i), seen, open);
            }
            return;
        }
        for (Field field : here.getClass().getDeclaredFields()) {
            if (!Modifier.isStatic(field.getModifiers())) {
                elements++;
                reach(valueOf(field, here), seen, open);
            }
        }
    }

    /** Null for a number, which takes no more room than its field. */
    private static Object valueOf(Field field, Object here) {
        try {
            field.setAccessible(true);
            return field.getType().isPrimitive() ? null : field.get(here);
        } catch (IllegalAccessException e) {
            throw new IllegalStateException(e);
        }
    }

    public static void main(String[] args) {
        Check.part("the room");
        Bench bench = new Bench();
        RoomTest first = new RoomTest(bench.uncounted());
        Check.yes("objects are counted: " + first.objects, first.objects > 1);
        Check.yes("a run of new objects alone has " + first.objects + " objects for each",
                first.objects * MOST_CALLS < OBJECTS_OF_THE_ROOM);
        Check.yes("a run of new objects alone has " + first.elements + " elements for each",
                first.elements * MOST_CALLS < ELEMENTS_OF_THE_ROOM);
        use(bench);
        RoomTest then = new RoomTest(bench.uncounted());
        Check.same("objects after some calls", then.objects, first.objects);
        Check.same("elements after some calls", then.elements, first.elements);
        Check.end();
    }

    private static void use(Bench bench) {
        for (int i = 1; i <= 4; i++) {
            bench.makeOpen(1, 0, i, 0666, 1, 2, 3);
            Check.same("snapshot", bench.snapshot(), i);
            bench.ask(1, Bench.WRITE, 0, 0, 9);
            bench.ask(0, Bench.WSTAT, 0, i + 10, 0600, 4, 1);
            bench.ask(0, Bench.REMOVE, 0);
        }
        Check.yes("say", bench.say(1));
        Check.yes("send", bench.send(0, 0, 0, 0));
        Check.same("sync", bench.sync(0), 0);
    }
}
