import java.lang.reflect.Array;
import java.lang.reflect.Field;

/** Changes what is inside of an object, by a path of fields and indexes, to see whether it is noticed. */
final class Inside {
    private Inside() {
    }

    static void set(Object start, String path, Object value) {
        int dot = path.lastIndexOf('.');
        Object owner = dot < 0 ? start : find(start, path.substring(0, dot));
        try {
            field(owner, path.substring(dot + 1)).set(owner, value);
        } catch (IllegalAccessException e) {
            throw new IllegalStateException(path, e);
        }
    }

    static void add(Object start, String path, int index, int more) {
        Object row = find(start, path);
        Array.setInt(row, index, Array.getInt(row, index) + more);
    }

    private static Object find(Object start, String path) {
        Object here = start;
        for (String part : path.split("\\.")) {
            try {
                here = here.getClass().isArray() ? Array.get(here, Integer.parseInt(part))
                    : field(here, part).get(here);
            } catch (IllegalAccessException e) {
                throw new IllegalStateException(path, e);
            }
        }
        return here;
    }

    private static Field field(Object owner, String name) {
        try {
            Field field = owner.getClass().getDeclaredField(name);
            field.setAccessible(true);
            return field;
        } catch (NoSuchFieldException e) {
            throw new IllegalStateException(name, e);
        }
    }
}
