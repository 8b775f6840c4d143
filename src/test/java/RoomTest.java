import java.lang.reflect.Array;
import java.lang.reflect.Field;
import java.lang.reflect.Modifier;
import java.util.ArrayDeque;
import java.util.Collections;
import java.util.Deque;
import java.util.IdentityHashMap;
import java.util.Set;

/**
 * What an object holds: it makes all its rows when it is made, so that many objects have room
 * together, and no run of calls adds to it.
 */
public final class RoomTest {
    private static final int ROOM_OBJECTS = 600_000;
    private static final int ROOM_CELLS = 7_300_000;
    private static final int YARDS = 2_000;

    private int objects = 0;
    private int cells = 0;

    private RoomTest(Object from) {
        Set<Object> seen = Collections.newSetFromMap(new IdentityHashMap<>());
        Deque<Object> waiting = new ArrayDeque<>();
        waiting.add(from);
        while (!waiting.isEmpty()) {
            Object next = waiting.remove();
            if (seen.add(next)) {
                count(next, waiting);
            }
        }
    }

    private void count(Object one, Deque<Object> waiting) {
        objects++;
        Class<?> kind = one.getClass();
        if (kind.isArray()) {
            cells += Array.getLength(one);
            boolean plain = kind.getComponentType().isPrimitive();
            for (int i = 0; !plain && i < Array.getLength(one); i++) {
                addTo(waiting, Array.get(one, i));
            }
            return;
        }
        for (Field field : kind.getDeclaredFields()) {
            if (!Modifier.isStatic(field.getModifiers())) {
                cells++;
                if (!field.getType().isPrimitive()) {
                    addTo(waiting, valueOf(field, one));
                }
            }
        }
    }

    private static void addTo(Deque<Object> waiting, Object value) {
        if (value != null) {
            waiting.add(value);
        }
    }

    private static Object valueOf(Field field, Object one) {
        try {
            field.setAccessible(true);
            return field.get(one);
        } catch (IllegalAccessException e) {
            throw new IllegalStateException(e);
        }
    }

    public static void main(String[] args) {
        RoomTest fresh = new RoomTest(new MountYard());
        Check.is(YARDS + " objects of " + fresh.objects + " each have room",
                fresh.objects * YARDS <= ROOM_OBJECTS);
        Check.is(YARDS + " objects of " + fresh.cells + " fields and elements each have room",
                (long) fresh.cells * YARDS <= ROOM_CELLS);
        MountYard used = new MountYard();
        use(used);
        RoomTest later = new RoomTest(used);
        Check.same("objects behind many calls", later.objects, fresh.objects);
        Check.same("fields and elements behind many calls", later.cells, fresh.cells);
        Check.end();
    }

    /** Nearly as many calls as are promised: files, handles, replies, keys and forks. */
    private static void use(MountYard yard) {
        int calls = send(yard, Message.begin(160, "9P2000")) + send(yard, Message.attach(1));
        for (int i = 0; calls + 30 < Yard.MOST_CALLS; i++) {
            String name = "" + (char) ('a' + i % 26) + (char) ('a' + i / 26);
            calls += send(yard, Message.walk(1, 2));
            calls += send(yard, Message.create(2, name, Client.DIR, 0));
            calls += send(yard, Message.read(2, 0, 149));
            calls += send(yard, Message.close(2));
            calls += join(yard, name, i);
        }
        Check.is("many files", yard.files() > 16);
    }

    private static int join(MountYard yard, String name, int turn) {
        String words = name + " " + name;
        yard.clear();
        Check.is("type", yard.type(Client.word(words), words.length()));
        if (turn < 4) {
            Check.same("bind", yard.bind(0, 1), 2);
        } else {
            Check.throwing("bind", UnsupportedOperationException.class, () -> yard.bind(0, 1));
        }
        Check.is("fork", yard.fork(0, 1 + turn % 3, turn % 2 == 0));
        return 4;
    }

    /** Answers how many calls it made. */
    private static int send(MountYard yard, Message message) {
        byte[] frame = message.frame();
        int calls = 0;
        for (int from = 0; from < frame.length; from += 8) {
            int count = Math.min(8, frame.length - from);
            long word = 0;
            for (int i = 0; i < count; i++) {
                word |= (frame[from + i] & 255L) << 8 * i;
            }
            yard.feed(word, count);
            calls++;
        }
        Check.same("serve", yard.serve(), (frame[4] & 255) + 1);
        Check.is("drop", yard.drop(yard.size(true)));
        return calls + 3;
    }
}
