import java.lang.reflect.Array;
import java.lang.reflect.Field;
import java.lang.reflect.Modifier;
import java.util.ArrayDeque;
import java.util.Collections;
import java.util.Deque;
import java.util.IdentityHashMap;
import java.util.Random;
import java.util.Set;

/** All parts of an object are there when it is made; calls neither add to them nor put others in their place. */
public final class RoomTest {
    private static final int MOST_OBJECTS = 200;
    private static final int MOST_ELEMENTS = 5000;

    private RoomTest() {
    }

    public static void main(String[] args) throws Exception {
        Check check = new Check();
        FilmWhole film = new FilmWhole();
        Set<Object> before = partsOf(film);
        check.holds("objects and arrays: " + before.size(), before.size() <= MOST_OBJECTS);
        check.holds("fields and elements: " + elementsOf(before), elementsOf(before) <= MOST_ELEMENTS);
        WildTest.fill(film, new Random(1), 40);
        Random random = new Random(2);
        for (int k = 0; k < 200; k++) {
            WildTest.call(film, k % 20, random);
        }
        Set<Object> after = partsOf(film);
        check.holds("the same objects and arrays", after.size() == before.size() && before.containsAll(after));
        check.holds("two objects have no part in common", Collections.disjoint(partsOf(new FilmWhole()), after));
        check.end();
    }

    private static Set<Object> partsOf(Object whole) throws Exception {
        Set<Object> parts = Collections.newSetFromMap(new IdentityHashMap<>());
        Deque<Object> open = new ArrayDeque<>();
        open.add(whole);
        while (!open.isEmpty()) {
            Object part = open.remove();
            if (!parts.add(part)) {
                continue;
            }
            if (part instanceof Object[] array) {
                for (Object one : array) {
                    open.add(one);
                }
            }
            for (Field f : part.getClass().isArray() ? new Field[0] : part.getClass().getDeclaredFields()) {
                if (!f.getType().isPrimitive() && !Modifier.isStatic(f.getModifiers())) {
                    f.setAccessible(true);
                    open.add(f.get(part));
                }
            }
        }
        return parts;
    }

    private static int elementsOf(Set<Object> parts) {
        int sum = 0;
        for (Object part : parts) {
            sum += part.getClass().isArray() ? Array.getLength(part) : part.getClass().getDeclaredFields().length;
        }
        return sum;
    }
}
