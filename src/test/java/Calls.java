import java.lang.reflect.InvocationTargetException;
import java.lang.reflect.Method;
import java.util.HashMap;
import java.util.Map;

/** Calls by name, on ThinLine and on the Model alike. */
final class Calls {
    private static final Map<String, Method> KNOWN = new HashMap<>();
    private static Object last = null;
    private static int made = 0;
    private static int most = 0;

    private Calls() {
    }

    private static Method find(Class<?> of, String name) {
        for (Method m : of.getDeclaredMethods()) {
            boolean ofNumbers = m.getParameterCount() > 0;
            for (Class<?> p : m.getParameterTypes()) ofNumbers &= p == int.class;
            if (ofNumbers && m.getName().equals(name)) return m;
        }
        throw new IllegalArgumentException("no call " + name);
    }

    /** What the call answers (a boolean counts 1 or 0). */
    static long call(Object target, String name, int... args) {
        Method m = KNOWN.computeIfAbsent(target.getClass().getName() + "." + name, k -> find(target.getClass(), name));
        made = target == last ? made + 1 : 1;
        last = target;
        most = Math.max(most, made);
        Object[] given = new Object[args.length];
        for (int i = 0; i < args.length; i++) given[i] = args[i];
        try {
            Object got = m.invoke(target, given);
            return got instanceof Boolean b ? (b ? 1 : 0) : ((Number) got).longValue();
        } catch (IllegalAccessException e) {
            throw new IllegalStateException(e);
        } catch (InvocationTargetException e) {
            throw new IllegalStateException(spell(name, args) + " threw", e.getCause());
        }
    }

    /** The most calls that came to one object without another between. */
    static int most() {
        return most;
    }

    static String spell(String name, int... args) {
        StringBuilder b = new StringBuilder(name).append('(');
        for (int i = 0; i < args.length; i++) b.append(i == 0 ? "" : ", ").append(args[i]);
        return b.append(')').toString();
    }
}
