import java.lang.reflect.InvocationTargetException;
import java.lang.reflect.Method;
import java.util.HashMap;
import java.util.Map;

/** An object of the class and the model beside it, both called by the names of the calls. */
final class Both {
    private static final Map<String, Method> CALLS = named(ParishUnion.class);
    private static final Map<String, Method> MODEL_CALLS = named(Model.class);

    final ParishUnion x = new ParishUnion();
    /** null: the class alone is called. */
    private final Model m;

    Both(boolean withModel) {
        m = withModel ? new Model() : null;
    }

    private static Map<String, Method> named(Class<?> c) {
        Map<String, Method> all = new HashMap<>();
        for (Method m : c.getDeclaredMethods()) {
            all.put(m.getName(), m);
        }
        return all;
    }

    /** A call on both; the answers are compared. */
    int tell(String name, long... args) {
        int got = ask(name, args);
        if (m != null) {
            Due.due(said(name, args), got, answer(MODEL_CALLS.get(name), m, args));
        }
        return got;
    }

    int ask(String name, long... args) {
        return answer(CALLS.get(name), x, args);
    }

    /** What the model would answer; it stays as it is. */
    int due(String name, long... args) {
        return answer(MODEL_CALLS.get(name), m.copy(), args);
    }

    void feed(String text) {
        for (int i = 0; i < text.length(); i += 8) {
            long w = 0;
            int n = Math.min(8, text.length() - i);
            for (int j = 0; j < n; j++) {
                w = w << 8 | (text.charAt(i + j) & 255);
            }
            tell("feed", w, n);
        }
    }

    int act(String text, int week) {
        feed(text);
        return tell("text", week);
    }

    static String said(String name, long... args) {
        StringBuilder s = new StringBuilder(name).append('(');
        for (int i = 0; i < args.length; i++) {
            s.append(i == 0 ? "" : ", ").append(args[i]);
        }
        return s.append(')').toString();
    }

    private static int answer(Method call, Object on, long... args) {
        Class<?>[] types = call.getParameterTypes();
        Object[] given = new Object[types.length];
        for (int i = 0; i < types.length; i++) {
            if (types[i] == boolean.class) {
                given[i] = args[i] != 0;
            } else if (types[i] == long.class) {
                given[i] = args[i];
            } else {
                given[i] = (int) args[i];
            }
        }
        try {
            return (Integer) call.invoke(on, given);
        } catch (IllegalAccessException | InvocationTargetException e) {
            throw new IllegalStateException(call.getName(), e);
        }
    }
}
