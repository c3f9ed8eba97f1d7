import java.lang.reflect.InvocationTargetException;
import java.lang.reflect.Method;
import java.lang.reflect.Modifier;
import java.util.HashMap;
import java.util.Map;

/** Calls by name, with their outcomes as texts. */
final class Calls {
    /** How many calls the document promises of one object; no test asks for more. */
    static final int PROMISED = 512;

    private static final Map<Class<?>, Map<String, Method>> METHODS = new HashMap<>();

    private Calls() {
    }

    /** An answer, or the exception's name behind "throws."; "null" of a call without an answer. */
    static String outcome(Object target, String name, long... args) {
        Method method = METHODS.computeIfAbsent(target.getClass(), Calls::methodsOf).get(name);
        Object[] given = new Object[args.length];
        for (int i = 0; i < args.length; i++) {
            if (method.getParameterTypes()[i] == long.class) {
                given[i] = args[i];
            } else {
                given[i] = (int) args[i];
            }
        }
        try {
            return String.valueOf(method.invoke(target, given));
        } catch (InvocationTargetException e) {
            return refusal(e.getCause().getClass());
        } catch (IllegalAccessException e) {
            throw new IllegalStateException(e);
        }
    }

    static String refusal(Class<?> exception) {
        return "throws." + exception.getSimpleName();
    }

    static boolean isRefused(String outcome) {
        return outcome.startsWith("throws.");
    }

    static String text(String name, long... args) {
        StringBuilder text = new StringBuilder(name).append('(');
        for (int i = 0; i < args.length; i++) {
            text.append(i == 0 ? "" : ", ").append(args[i]);
        }
        return text.append(')').toString();
    }

    private static Map<String, Method> methodsOf(Class<?> owner) {
        Map<String, Method> methods = new HashMap<>();
        for (Method method : owner.getDeclaredMethods()) {
            if (!Modifier.isPrivate(method.getModifiers())) {
                methods.put(method.getName(), method);
            }
        }
        return methods;
    }
}
