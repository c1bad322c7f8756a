import java.lang.reflect.Array;
import java.lang.reflect.Field;
import java.lang.reflect.Modifier;
import java.util.ArrayDeque;
import java.util.Collections;
import java.util.Deque;
import java.util.IdentityHashMap;
import java.util.Set;

/** Counts the objects and arrays that hang on an object, and their fields and elements. */
final class Held {
    private final Set<Object> seen = Collections.newSetFromMap(new IdentityHashMap<>());
    private final Deque<Object> open = new ArrayDeque<>();
    private int numbers = 0;

    Held(Object first) {
        reach(first);
        while (!open.isEmpty()) {
            Object one = open.remove();
            if (one.getClass().isArray()) {
                elements(one);
            } else {
                fields(one);
            }
        }
    }

    int objects() {
        return seen.size();
    }

    int numbers() {
        return numbers;
    }

    private void reach(Object one) {
        if (one != null && seen.add(one)) {
            open.add(one);
        }
    }

    private void elements(Object array) {
        numbers += Array.getLength(array);
        if (!array.getClass().getComponentType().isPrimitive()) {
            for (int i = 0; i < Array.getLength(array); i++) {
                reach(Array.get(array, i));
            }
        }
    }

    private void fields(Object one) {
        for (Field field : one.getClass().getDeclaredFields()) {
            if (!Modifier.isStatic(field.getModifiers())) {
                numbers++;
                field.setAccessible(true);
                if (!field.getType().isPrimitive()) {
                    reach(value(field, one));
                }
            }
        }
    }

    private static Object value(Field field, Object one) {
        try {
            return field.get(one);
        } catch (IllegalAccessException e) {
            throw new IllegalStateException(e);
        }
    }
}
