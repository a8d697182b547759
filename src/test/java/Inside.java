import java.lang.reflect.Array;
import java.lang.reflect.Field;
import java.util.List;

/** Fields inside an object, by paths such as "net.lines.0.credits"; numbers are places in arrays and lists. */
final class Inside {
    private Inside() {
    }

    static boolean hasOneOf(Class<?> type, String... names) {
        for (Field field : type.getDeclaredFields()) {
            if (List.of(names).contains(field.getName())) {
                return true;
            }
        }
        return false;
    }

    @SuppressWarnings("unchecked")
    static List<Object> list(Object of, String path) {
        return (List<Object>) get(of, path);
    }

    static Object get(Object of, String path) {
        Object at = of;
        for (String word : path.split("\\.")) {
            at = part(at, word);
        }
        return at;
    }

    private static Object part(Object of, String word) {
        if (of instanceof List<?> list) {
            return list.get(Integer.parseInt(word));
        }
        if (of.getClass().isArray()) {
            return Array.get(of, Integer.parseInt(word));
        }
        try {
            return field(of, word).get(of);
        } catch (ReflectiveOperationException e) {
            throw new IllegalStateException(word, e);
        }
    }

    private static Field field(Object of, String name) throws NoSuchFieldException {
        Field field = of.getClass().getDeclaredField(name);
        field.setAccessible(true);
        return field;
    }

    static void set(Object of, String path, Object value) {
        int dot = path.lastIndexOf('.');
        Object holder = get(of, path.substring(0, dot));
        String word = path.substring(dot + 1);
        try {
            if (holder.getClass().isArray()) {
                Array.set(holder, Integer.parseInt(word), value);
            } else {
                field(holder, word).set(holder, value);
            }
        } catch (ReflectiveOperationException e) {
            throw new IllegalStateException(path, e);
        }
    }
}
