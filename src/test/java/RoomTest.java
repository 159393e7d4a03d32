import java.lang.reflect.Array;
import java.lang.reflect.Field;
import java.lang.reflect.Modifier;
import java.util.ArrayDeque;
import java.util.Collections;
import java.util.Deque;
import java.util.IdentityHashMap;
import java.util.Set;

/** What an object holds, whatever it has been asked; and that no double in it is NaN (LANGUAGE.md, rule 3). */
public final class RoomTest {
    private static final int REALS = 2;
    private static final int MOST_OBJECTS = 1000, MOST_ELEMENTS = 10000;

    private final Set<Object> found = Collections.newSetFromMap(new IdentityHashMap<>());
    private int elements;
    private int notNumbers;

    public static void main(String[] args) throws IllegalAccessException {
        NestTables x = new NestTables();
        for (int again = 0; again < 2; again++) {
            x.clear();
            for (int t = 0; t < 16; t++) {
                x.table((t + again) % 4, 12);
                for (int i = 0; i < 12; i++) {
                    x.row(t, i, 16);
                }
            }
        }
        for (int i = 0; i < 90; i++) {
            x.row(i % 16, i % 12, i % 17);
        }
        bounded("rows at every place, and anew", x);
        bounded("endless less endless", loseNumbers(Integer.MIN_VALUE));
        bounded("endless times 0", loseNumbers(0));
        Due.end();
    }

    /** Squares of a table with these beside its greatest cells, as long as there is room. */
    private static NestTables loseNumbers(int beside) {
        NestTables x = new NestTables();
        x.table(REALS, 3);
        for (int i = 0; i < 3; i++) {
            x.row(0, i, 3);
            x.put(0, i, i, Integer.MAX_VALUE);
            x.put(0, i, (i + 1) % 3, beside);
        }
        for (int t = 0; t < 12; t++) {
            x.product(t, t);
        }
        x.table(REALS, 3);
        for (int i = 0; i < 3; i++) {
            x.row(13, i, 3);
        }
        Due.is("0 times all that is endless", x.product(13, 6), 14);
        Due.is("all that is endless times 0", x.product(6, 13), 15);
        Due.is("no number is reached", x.alike(12, 12), 0);
        Due.is("no number is reached", x.alike(14, 14), 0);
        Due.is("no number is reached", x.alike(15, 15), 0);
        Due.is("sixteen tables", x.count(0), 16);
        return x;
    }

    private static void bounded(String when, NestTables x) throws IllegalAccessException {
        RoomTest walk = new RoomTest();
        walk.through(x);
        Due.is(when + ": NaN", walk.notNumbers, 0);
        Due.is(when + ": too many objects, " + walk.found.size(), walk.found.size() > MOST_OBJECTS ? 1 : 0, 0);
        Due.is(when + ": too many elements, " + walk.elements, walk.elements > MOST_ELEMENTS ? 1 : 0, 0);
    }

    private void through(Object start) throws IllegalAccessException {
        Deque<Object> open = new ArrayDeque<>();
        open.add(start);
        while (!open.isEmpty()) {
            Object o = open.remove();
            if (found.add(o)) {
                if (o.getClass().isArray()) {
                    throughArray(o, open);
                } else {
                    throughFields(o, open);
                }
            }
        }
    }

    private void throughArray(Object array, Deque<Object> open) {
        elements += Array.getLength(array);
        for (int k = 0; k < Array.getLength(array); k++) {
            look(Array.get(array, k), array.getClass().getComponentType(), open);
        }
    }

    private void throughFields(Object o, Deque<Object> open) throws IllegalAccessException {
        for (Field f : o.getClass().getDeclaredFields()) {
            if (!Modifier.isStatic(f.getModifiers())) {
                f.setAccessible(true);
                elements++;
                look(f.get(o), f.getType(), open);
            }
        }
    }

    private void look(Object value, Class<?> type, Deque<Object> open) {
        if (value instanceof Double && ((Double) value).isNaN()) {
            notNumbers++;
        }
        if (value != null && !type.isPrimitive()) {
            open.add(value);
        }
    }
}
