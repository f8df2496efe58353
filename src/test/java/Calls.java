import java.lang.reflect.InvocationTargetException;
import java.lang.reflect.Method;
import java.util.HashMap;
import java.util.Map;

/** Calls of an object, written as texts such as "shift(-1)" and "append('x')", with their answers as texts. */
final class Calls {
    private static final Map<String, Method> METHODS = new HashMap<>();

    private Calls() {
    }

    /** Returns the result, "" for a method without one, or the name of the exception that the call threw. */
    static String answer(Object target, String call) {
        int open = call.indexOf('(');
        String name = call.substring(0, open);
        String inside = call.substring(open + 1, call.length() - 1);
        try {
            Object result = method(target, name).invoke(target, arguments(inside));
            return result == null ? "" : result.toString();
        } catch (InvocationTargetException e) {
            return e.getCause().getClass().getSimpleName();
        } catch (IllegalAccessException e) {
            throw new IllegalStateException(e);
        }
    }

    private static Object[] arguments(String inside) {
        if (inside.isEmpty()) {
            return new Object[0];
        }
        if (inside.charAt(0) == '\'') {
            return new Object[] {inside.charAt(1)};
        }
        String[] parts = inside.split(",");
        Object[] result = new Object[parts.length];
        for (int i = 0; i < parts.length; i++) {
            result[i] = Integer.parseInt(parts[i].trim());
        }
        return result;
    }

    private static Method method(Object target, String name) {
        return METHODS.computeIfAbsent(target.getClass().getName() + "." + name, key -> find(target, name));
    }

    private static Method find(Object target, String name) {
        for (Method method : target.getClass().getDeclaredMethods()) {
            if (method.getName().equals(name)) {
                return method;
            }
        }
        throw new IllegalStateException("no method " + name);
    }
}
