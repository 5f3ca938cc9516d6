import java.lang.reflect.InvocationTargetException;
import java.lang.reflect.Method;
import java.util.HashMap;
import java.util.Map;

/** Calls that are written as texts, like lead(0, 1, a, 2); a letter may be written by its number, like #65535. */
final class Calls {
    private static final Map<String, Method> METHODS = new HashMap<>();

    static {
        for (Method method : LearnHall.class.getMethods()) {
            if (method.getDeclaringClass() == LearnHall.class) {
                METHODS.put(method.getName(), method);
            }
        }
    }

    private Calls() {
    }

    /** Makes the call, and returns what it answers, or throws.E if it throws E. */
    static String answer(LearnHall hall, String call) {
        int open = call.indexOf('(');
        Method method = METHODS.get(call.substring(0, open));
        Class<?>[] types = method.getParameterTypes();
        String inside = call.substring(open + 1, call.lastIndexOf(')'));
        String[] texts = inside.isEmpty() ? new String[0] : inside.split(", ");
        if (texts.length != types.length) {
            throw new IllegalArgumentException(call);
        }
        Object[] arguments = new Object[types.length];
        for (int i = 0; i < types.length; i++) {
            arguments[i] = argument(types[i], texts[i]);
        }
        try {
            return String.valueOf(method.invoke(hall, arguments));
        } catch (InvocationTargetException e) {
            return "throws." + e.getCause().getClass().getSimpleName();
        } catch (IllegalAccessException e) {
            throw new IllegalStateException(e);
        }
    }

    private static Object argument(Class<?> type, String text) {
        if (type == int.class) {
            return Integer.valueOf(text);
        }
        if (type == boolean.class) {
            return Boolean.valueOf(text);
        }
        return text.length() == 1 ? text.charAt(0) : (char) Integer.parseInt(text.substring(1));
    }
}
