import java.lang.reflect.Array;
import java.lang.reflect.Field;
import java.lang.reflect.Modifier;
import java.util.IdentityHashMap;
import java.util.Map;

/**
 * Changes what is inside of an object, by a path of fields and indexes, to see whether it is noticed; and writes all
 * that is inside, to see whether it stayed.
 */
final class Inside {
    private Inside() {
    }

    /** Each field of the object and of all that hangs on it, also what no call of the face would tell. */
    static String picture(Object start) {
        StringBuilder text = new StringBuilder();
        write(start, text, new IdentityHashMap<>());
        return text.toString();
    }

    private static void write(Object value, StringBuilder text, Map<Object, Integer> seen) {
        boolean isPlain = value == null || value.getClass().getName().startsWith("java.");
        if (isPlain || seen.containsKey(value)) {
            text.append(isPlain ? value : "#" + seen.get(value)).append(' ');
            return;
        }
        seen.put(value, seen.size());
        if (value.getClass().isArray()) {
            for (int i = 0; i < Array.getLength(value); i++) {
                write(Array.get(value, i), text, seen);
            }
            return;
        }
        for (Field field : value.getClass().getDeclaredFields()) {
            if (!Modifier.isStatic(field.getModifiers())) {
                text.append(field.getName()).append('=');
                write(get(field, value), text, seen);
            }
        }
    }

    private static Object get(Field field, Object owner) {
        try {
            field.setAccessible(true);
            return field.get(owner);
        } catch (IllegalAccessException e) {
            throw new IllegalStateException(field.getName(), e);
        }
    }

    static void set(Object start, String path, Object value) {
        int dot = path.lastIndexOf('.');
        Object owner = dot < 0 ? start : find(start, path.substring(0, dot));
        try {
            field(owner, path.substring(dot + 1)).set(owner, value);
        } catch (IllegalAccessException e) {
            throw new IllegalStateException(path, e);
        }
    }

    static void add(Object start, String path, int index, int more) {
        Object row = find(start, path);
        Array.setInt(row, index, Array.getInt(row, index) + more);
    }

    private static Object find(Object start, String path) {
        Object here = start;
        for (String part : path.split("\\.")) {
            here = here.getClass().isArray() ? Array.get(here, Integer.parseInt(part)) : get(field(here, part), here);
        }
        return here;
    }

    private static Field field(Object owner, String name) {
        try {
            Field field = owner.getClass().getDeclaredField(name);
            field.setAccessible(true);
            return field;
        } catch (NoSuchFieldException e) {
            throw new IllegalStateException(name, e);
        }
    }
}
