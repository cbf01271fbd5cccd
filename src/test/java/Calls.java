import java.lang.reflect.InvocationTargetException;
import java.lang.reflect.Method;
import java.util.HashMap;
import java.util.Map;

/** Calls by their names, so that the same run can be made on the class and on the slow model. */
final class Calls {
    /** No call answers this. */
    static final int THREW = -999;

    private static final Map<String, Method> KNOWN = new HashMap<>();

    private Calls() {
    }

    static int call(Object on, String name, long... numbers) {
        Method method = KNOWN.computeIfAbsent(on.getClass().getName() + " " + name, key -> named(on.getClass(), name));
        Class<?>[] types = method.getParameterTypes();
        Object[] arguments = new Object[numbers.length];
        for (int k = 0; k < numbers.length; k++) {
            arguments[k] = types[k] == long.class ? (Object) numbers[k] : (Object) Math.toIntExact(numbers[k]);
        }
        try {
            return (int) method.invoke(on, arguments);
        } catch (InvocationTargetException e) {
            System.out.println(text(name, numbers) + " threw " + e.getCause());
            return THREW;
        } catch (IllegalAccessException e) {
            throw new IllegalStateException(e);
        }
    }

    private static Method named(Class<?> type, String name) {
        for (Method method : type.getDeclaredMethods()) {
            if (method.getName().equals(name)) {
                return method;
            }
        }
        throw new IllegalStateException(type + " has no " + name);
    }

    static String text(String name, long... numbers) {
        StringBuilder text = new StringBuilder(name).append('(');
        for (int k = 0; k < numbers.length; k++) {
            text.append(k == 0 ? "" : ", ").append(numbers[k]);
        }
        return text.append(')').toString();
    }

    static int tell(Object on, String letters) {
        for (char letter : letters.toCharArray()) {
            call(on, "type", letter);
        }
        return call(on, "set");
    }
}
