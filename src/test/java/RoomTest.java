import java.lang.reflect.Array;
import java.lang.reflect.Field;
import java.lang.reflect.Modifier;
import java.util.ArrayDeque;
import java.util.Collections;
import java.util.Deque;
import java.util.IdentityHashMap;
import java.util.Set;

/**
 * An object's dearest 512 calls: they make nothing but wider rows of bytes, which stay far below what
 * one run may make (600,000 objects, 7.3 million fields and elements), and they never fail.
 */
public final class RoomTest {
    private static final int CALLS = 512;
    private static final int MOST_OBJECTS = 20;
    private static final int MOST_ELEMENTS = 40000;

    private RoomTest() {
    }

    public static void main(String[] args) throws IllegalAccessException {
        codedBytesAsManyAsCanBe();
        rawBytesAsManyAsCanBe();
        segmentsAsManyAsCanBe();
        readingMakesNothing();
        Checks.end();
    }

    /** State 45's other bit alone is 15 doublings, so each write begins there. */
    private static void codedBytesAsManyAsCanBe() throws IllegalAccessException {
        LikelyBits x = new LikelyBits();
        Set<Object> before = reached(x);
        x.open(false);
        int bytes = 0;
        for (int calls = 1; calls + 3 <= CALLS; calls += 2) {
            x.context(false, 18, 45, 0);
            bytes = x.write(18, -1L, 64);
        }
        int length = x.close(0);
        Checks.due("coded bytes are many", bytes > 1000 ? 1 : 0, 1);
        Checks.due("coded: at(-1)", x.at(-1), length);
        onlyARowIsNew("coded", before, reached(x));
    }

    private static void rawBytesAsManyAsCanBe() throws IllegalAccessException {
        LikelyBits x = new LikelyBits();
        Set<Object> before = reached(x);
        x.open(true);
        for (int calls = 1; calls + 2 <= CALLS; calls++) {
            x.write(-1, 0, 64);
        }
        Checks.due("raw: close", x.close(1), (CALLS - 2) * 8);
        onlyARowIsNew("raw", before, reached(x));
    }

    private static void segmentsAsManyAsCanBe() throws IllegalAccessException {
        LikelyBits x = new LikelyBits();
        Set<Object> before = reached(x);
        for (int calls = 0; calls + 2 <= CALLS; calls += 2) {
            x.open(false);
            Checks.due("empty segment: close", x.close(0), 2);
        }
        Checks.due("empty segments: at(-1)", x.at(-1), CALLS);
        onlyARowIsNew("segments", before, reached(x));
    }

    private static void readingMakesNothing() throws IllegalAccessException {
        LikelyBits x = new LikelyBits();
        Checks.putAll(x, 132, 199, 59, 252, 225, 161);
        Set<Object> before = reached(x);
        for (int calls = 6; calls + 3 <= CALLS; calls += 3) {
            x.read(false, 0, 6);
            x.context(true, 0, 45, 1);
            x.bits(0, 64);
        }
        Set<Object> after = reached(x);
        Checks.due("reading: objects", after.size(), before.size());
        Checks.due("reading: the same objects", before.containsAll(after) ? 1 : 0, 1);
    }

    private static void onlyARowIsNew(String name, Set<Object> before, Set<Object> after) {
        int fresh = 0;
        long elements = 0;
        for (Object one : after) {
            fresh += before.contains(one) ? 0 : 1;
            elements += one.getClass().isArray() ? Array.getLength(one) : one.getClass().getDeclaredFields().length;
        }
        Checks.due(name + ": no more than one row is new", fresh <= 1 ? 1 : 0, 1);
        Checks.due(name + ": objects are few", after.size() <= MOST_OBJECTS ? 1 : 0, 1);
        Checks.due(name + ": elements are few", elements <= MOST_ELEMENTS ? 1 : 0, 1);
    }

    /** Every object and array that hangs on this one, itself among them. */
    private static Set<Object> reached(Object root) throws IllegalAccessException {
        Set<Object> seen = Collections.newSetFromMap(new IdentityHashMap<>());
        Deque<Object> left = new ArrayDeque<>();
        left.add(root);
        while (!left.isEmpty()) {
            Object one = left.remove();
            if (!seen.add(one) || one.getClass().isArray()) {
                continue;
            }
            for (Field field : one.getClass().getDeclaredFields()) {
                if (Modifier.isStatic(field.getModifiers()) || field.getType().isPrimitive()) {
                    continue;
                }
                field.setAccessible(true);
                Object next = field.get(one);
                if (next != null) {
                    left.add(next);
                }
            }
        }
        return seen;
    }
}
