import java.lang.reflect.Method;
import java.util.HashMap;
import java.util.Map;

/** An object whose calls are counted, since what it answers behind the 512th is free. */
final class Counted {
    static final int MOST_CALLS = 512;

    private static final Map<String, Method> METHODS = new HashMap<>();

    static {
        for (Method method : AHundredSights.class.getDeclaredMethods()) {
            if (java.lang.reflect.Modifier.isPublic(method.getModifiers())) {
                METHODS.put(method.getName(), method);
            }
        }
    }

    private final AHundredSights x = new AHundredSights();
    private int calls = 0;

    long call(String name, int... arguments) {
        Method method = METHODS.get(name);
        if (method == null || method.getParameterCount() != arguments.length) {
            throw new IllegalArgumentException("no such call: " + name + " of " + arguments.length);
        }
        if (++calls > MOST_CALLS) {
            throw new IllegalStateException("a test makes more than " + MOST_CALLS + " calls on an object");
        }
        Object[] boxed = new Object[arguments.length];
        for (int i = 0; i < boxed.length; i++) {
            boxed[i] = arguments[i];
        }
        try {
            return ((Number) method.invoke(x, boxed)).longValue();
        } catch (ReflectiveOperationException e) {
            throw new IllegalStateException(name + " threw " + e.getCause(), e);
        }
    }
}
