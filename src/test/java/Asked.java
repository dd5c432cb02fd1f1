import java.lang.reflect.InvocationTargetException;
import java.lang.reflect.Method;
import java.lang.reflect.Modifier;
import java.util.Map;
import java.util.TreeMap;

/**
 * A new object whose calls are told by name, so that rows of them can be written down. Refuses to ask
 * more than the document answers for.
 */
final class Asked {
    static final int MOST_CALLS = 512;
    static final Map<String, Method> METHODS = methods();

    private final WornRings object = new WornRings();
    private int calls = 0;

    private static Map<String, Method> methods() {
        Map<String, Method> found = new TreeMap<>();
        for (Method m : WornRings.class.getDeclaredMethods()) {
            if (Modifier.isPublic(m.getModifiers())) {
                found.put(m.getName(), m);
            }
        }
        return found;
    }

    long ask(String name, int... arguments) {
        calls++;
        if (calls > MOST_CALLS) {
            throw new IllegalStateException("the test asks too much of one object");
        }
        Object[] boxed = new Object[arguments.length];
        for (int i = 0; i < arguments.length; i++) {
            boxed[i] = arguments[i];
        }
        try {
            return ((Number) METHODS.get(name).invoke(object, boxed)).longValue();
        } catch (InvocationTargetException thrown) {
            throw new IllegalStateException(name + " threw " + thrown.getCause(), thrown);
        } catch (IllegalAccessException hidden) {
            throw new IllegalStateException(name + " is not public", hidden);
        }
    }

    int callsLeft() {
        return MOST_CALLS - calls;
    }
}
