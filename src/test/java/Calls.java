import java.lang.reflect.Method;
import java.util.HashMap;
import java.util.Map;

/** Calls of InsideOut by name, so that a table can hold them. */
final class Calls {
    private static final Map<String, Method> METHODS = new HashMap<>();

    static {
        for (Method m : InsideOut.class.getDeclaredMethods()) {
            if (java.lang.reflect.Modifier.isPublic(m.getModifiers())) {
                METHODS.put(m.getName(), m);
            }
        }
    }

    private Calls() {
    }

    static long call(InsideOut x, String name, int... args) {
        Method m = METHODS.get(name);
        if (m == null || m.getParameterCount() != args.length) {
            throw new IllegalStateException("no such call: " + told(name, args));
        }
        Object[] boxed = new Object[args.length];
        for (int i = 0; i < args.length; i++) {
            boxed[i] = args[i];
        }
        try {
            return ((Number) m.invoke(x, boxed)).longValue();
        } catch (ReflectiveOperationException thrown) {
            throw new IllegalStateException(told(name, args) + " threw", thrown);
        }
    }

    static String told(String name, int... args) {
        StringBuilder told = new StringBuilder(name).append('(');
        for (int i = 0; i < args.length; i++) {
            told.append(i == 0 ? "" : ", ").append(args[i]);
        }
        return told.append(')').toString();
    }
}
