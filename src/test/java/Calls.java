import java.lang.reflect.Constructor;
import java.lang.reflect.InvocationTargetException;
import java.lang.reflect.Method;
import java.lang.reflect.Modifier;
import java.util.HashMap;
import java.util.Map;

/** Calls an object by texts such as "link 0 1 3"; an exception's answer is its name. */
final class Calls {
    private final Object object;
    private final Map<String, Method> methods = new HashMap<>();

    Calls(Class<?> type) {
        try {
            Constructor<?> constructor = type.getDeclaredConstructor();
            object = constructor.newInstance();
        } catch (ReflectiveOperationException e) {
            throw new IllegalStateException(type + " can not be made", e);
        }
        for (Method method : type.getDeclaredMethods()) {
            if (Modifier.isPublic(method.getModifiers()) || !methods.containsKey(method.getName())) {
                methods.put(method.getName(), method);
            }
        }
    }

    Object object() {
        return object;
    }

    String answer(String call) {
        String[] words = call.trim().split(" +");
        Method method = methods.get(words[0]);
        if (method == null) {
            throw new IllegalArgumentException("there is no " + words[0]);
        }
        try {
            return String.valueOf(method.invoke(object, arguments(method, words)));
        } catch (InvocationTargetException e) {
            return e.getCause().getClass().getSimpleName();
        } catch (IllegalAccessException e) {
            throw new IllegalStateException(call, e);
        }
    }

    private static Object[] arguments(Method method, String[] words) {
        Class<?>[] types = method.getParameterTypes();
        if (types.length != words.length - 1) {
            throw new IllegalArgumentException(words[0] + " takes " + types.length + " arguments");
        }
        Object[] arguments = new Object[types.length];
        for (int i = 0; i < types.length; i++) {
            String word = words[i + 1];
            arguments[i] = types[i] == boolean.class ? (Object) word.equals("true") : (Object) Integer.valueOf(word);
        }
        return arguments;
    }
}
