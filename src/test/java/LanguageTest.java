import java.lang.reflect.Array;
import java.lang.reflect.Field;
import java.lang.reflect.Method;
import java.lang.reflect.Modifier;
import java.util.ArrayList;
import java.util.Collections;
import java.util.IdentityHashMap;
import java.util.List;
import java.util.Set;

/** The limits of LANGUAGE.md that the compiled class shows, and that no call makes an object. */
public final class LanguageTest {
    private static final int MOST_CLASSES = 12;
    private static final int MOST_FIELDS = 20;
    private static final int MOST_PARAMETERS = 7;
    /** A run's room is some 600,000 objects and 7.3 million fields and elements, for 512 objects if it makes so many. */
    private static final int MOST_OBJECTS = 600_000 / 512 / 4;
    private static final int MOST_CELLS = 7_300_000 / 512 / 4;
    private static final String CENSUS = "Z02P0a0P0b1P0c2P0d9P1e9P1f0A01A10A12A23A30A45";

    private int cells;

    public static void main(String[] args) throws IllegalAccessException {
        Due due = new Due("LanguageTest");
        classes(due);
        new LanguageTest().room(due);
        due.end();
    }

    private static void classes(Due due) {
        Class<?>[] inside = CountedMissing.class.getDeclaredClasses();
        due.holds("some twelve classes", inside.length + 1 <= MOST_CLASSES);
        limits(due, CountedMissing.class);
        for (Class<?> one : inside) {
            due.holds(one.getName() + " is static", Modifier.isStatic(one.getModifiers()));
            due.due(one.getName() + " has no classes", one.getDeclaredClasses().length, 0);
            limits(due, one);
        }
    }

    private static void limits(Due due, Class<?> one) {
        int fields = 0;
        for (Field field : one.getDeclaredFields()) {
            boolean constant = Modifier.isStatic(field.getModifiers());
            fields += constant ? 0 : 1;
            due.holds(field + " is of a type allowed", isAllowed(field.getType()));
            due.holds(field + " is final if static", !constant
                    || Modifier.isFinal(field.getModifiers()) && field.getType() == int.class);
        }
        due.holds("some twenty fields of " + one.getName(), fields <= MOST_FIELDS);
        for (Method method : one.getDeclaredMethods()) {
            due.holds(method + " has seven parameters at most", method.getParameterCount() <= MOST_PARAMETERS);
            due.holds(method + " is of the class alone", !method.isSynthetic());
            for (Class<?> type : method.getParameterTypes()) {
                due.holds(method + " takes types allowed", isAllowed(type));
            }
            due.holds(method + " throws nothing of its own", method.getExceptionTypes().length == 0);
        }
    }

    private static boolean isAllowed(Class<?> type) {
        Class<?> part = type.isArray() ? type.getComponentType() : type;
        return part.isPrimitive() || part.getEnclosingClass() == CountedMissing.class;
    }

    /** What hangs on an object is few, and the same behind all its calls as when it was made. */
    private void room(Due due) throws IllegalAccessException {
        CountedMissing x = new CountedMissing();
        Set<Object> made = hangingOn(x);
        due.holds(made.size() + " objects are few", made.size() <= MOST_OBJECTS);
        due.holds(cells + " fields and elements are few", cells <= MOST_CELLS);
        Due.tell(x, CENSUS);
        for (int k = 0; k < 500; k++) {
            call(x, k % 22, k / 22);
            Set<Object> now = hangingOn(x);
            due.holds("all is there still", now.containsAll(made));
            due.due("nothing was made", now.size(), made.size());
        }
    }

    private Set<Object> hangingOn(Object root) throws IllegalAccessException {
        Set<Object> seen = Collections.newSetFromMap(new IdentityHashMap<>());
        List<Object> open = new ArrayList<>();
        open.add(root);
        cells = 0;
        while (!open.isEmpty()) {
            Object one = open.remove(open.size() - 1);
            if (one == null || !seen.add(one)) {
                continue;
            }
            if (one.getClass().isArray()) {
                elements(one, open);
            } else {
                fields(one, open);
            }
        }
        return seen;
    }

    private void elements(Object row, List<Object> open) {
        cells += Array.getLength(row);
        if (!row.getClass().getComponentType().isPrimitive()) {
            for (int k = 0; k < Array.getLength(row); k++) {
                open.add(Array.get(row, k));
            }
        }
    }

    private void fields(Object one, List<Object> open) throws IllegalAccessException {
        for (Field field : one.getClass().getDeclaredFields()) {
            if (!Modifier.isStatic(field.getModifiers())) {
                cells++;
                field.setAccessible(true);
                if (!field.getType().isPrimitive()) {
                    open.add(field.get(one));
                }
            }
        }
    }

    private static void call(CountedMissing x, int which, int k) {
        switch (which) {
            case 0 -> x.census();
            case 1 -> x.go(k % 6, 1);
            case 2 -> x.year();
            case 3 -> x.die(k % 6);
            case 4 -> x.rumour(k % 2, 9);
            case 5 -> x.law(k % 3);
            case 6 -> x.keep(k % 2);
            case 7 -> x.undo();
            case 8 -> x.go(k % 6, 0);
            case 9 -> x.about(5);
            case 10 -> x.person(k % 6, 7);
            case 11 -> x.town(k % 2, 0);
            case 12 -> x.forgotten(k % 6);
            case 13 -> x.lie(0, k);
            case 14 -> x.leave(0, k % 3);
            case 15 -> x.spans(0, k % 4, 1);
            case 16 -> x.toAsk(0, k % 4);
            case 17 -> x.retold(0, 3, k, 1);
            case 18 -> x.chance(0, k % 4, k % 11, true);
            case 19 -> x.again(k % 2);
            case 20 -> x.fault();
            default -> x.write(k % 9, 0);
        }
    }
}
