import java.lang.reflect.Method;
import java.util.HashMap;
import java.util.Map;

/**
 * One call, told as a text: "rod 0 3 150". The smallest and the largest int are low and high. It can
 * be made on the class and on the Model alike.
 */
final class Call {
    private static final Map<String, Call> CALLS = new HashMap<>();
    private static final Map<Class<?>, Map<String, Method>> METHODS = new HashMap<>();

    private final String name;
    private final Object[] arguments;

    private Call(String text) {
        String[] words = text.trim().split(" +");
        name = words[0];
        arguments = new Object[words.length - 1];
        for (int i = 0; i < arguments.length; i++) {
            arguments[i] = argument(words[i + 1]);
        }
    }

    private static Object argument(String word) {
        return switch (word) {
            case "low" -> Integer.MIN_VALUE;
            case "high" -> Integer.MAX_VALUE;
            case "true" -> true;
            case "false" -> false;
            default -> Integer.valueOf(word);
        };
    }

    static long make(Object target, String text) {
        return CALLS.computeIfAbsent(text, Call::new).madeOn(target);
    }

    private long madeOn(Object target) {
        Method method = METHODS.computeIfAbsent(target.getClass(), Call::methodsOf).get(name);
        if (method == null || method.getParameterCount() != arguments.length) {
            throw new IllegalArgumentException("no such call: " + name + " of " + arguments.length);
        }
        try {
            return ((Number) method.invoke(target, arguments)).longValue();
        } catch (ReflectiveOperationException wrong) {
            throw new IllegalStateException(name, wrong);
        }
    }

    private static Map<String, Method> methodsOf(Class<?> type) {
        Map<String, Method> methods = new HashMap<>();
        for (Method method : type.getDeclaredMethods()) {
            methods.put(method.getName(), method);
        }
        return methods;
    }
}
