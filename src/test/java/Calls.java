import java.lang.reflect.Method;
import java.util.ArrayList;
import java.util.HashMap;
import java.util.List;
import java.util.Map;

/** Calls by their name, so that the same ones can be done on the class and on the model. */
final class Calls {
    private static final Map<String, Method> KNOWN = new HashMap<>();

    private Calls() {
    }

    /** The answer as a number (a boolean counts 1 or 0). */
    static long on(Object bench, String name, long... numbers) {
        Method method = KNOWN.computeIfAbsent(bench.getClass() + name, key -> named(bench.getClass(), name));
        Class<?>[] types = method.getParameterTypes();
        Object[] arguments = new Object[types.length];
        for (int i = 0; i < types.length; i++) {
            arguments[i] = types[i] == int.class ? (Object) (int) numbers[i]
                : types[i] == boolean.class ? (Object) (numbers[i] != 0) : (Object) numbers[i];
        }
        try {
            Object answer = method.invoke(bench, arguments);
            return answer instanceof Boolean is ? (is ? 1 : 0) : ((Number) answer).longValue();
        } catch (ReflectiveOperationException e) {
            throw new IllegalStateException(name + java.util.Arrays.toString(numbers), e);
        }
    }

    static Class<?>[] typesOf(String name) {
        return named(AdapterBench.class, name).getParameterTypes();
    }

    private static Method named(Class<?> type, String name) {
        for (Method method : type.getDeclaredMethods()) {
            if (method.getName().equals(name)) {
                return method;
            }
        }
        throw new IllegalArgumentException(name);
    }

    /** All that a bench answers to some 300 calls; many of them change it. */
    static List<Long> look(Object bench) {
        List<Long> seen = new ArrayList<>();
        lookAtTold(bench, seen);
        lookAtFits(bench, seen);
        lookByCalling(bench, seen);
        lookAtFields(bench, seen);
        lookByTelling(bench, seen);
        lookAtConstants(bench, seen);
        return seen;
    }

    private static void lookAtTold(Object bench, List<Long> seen) {
        for (int what = 0; what < 8; what++) {
            seen.add(on(bench, "count", what));
        }
        seen.add(on(bench, "value"));
        seen.add(on(bench, "failed", 0));
        seen.add(on(bench, "failed", 1));
        for (int pair = 0; pair < 49; pair++) {
            seen.add(on(bench, "turning", pair / 7, pair % 7, 2));
        }
        lookAtFields(bench, seen);
    }

    private static void lookAtFields(Object bench, List<Long> seen) {
        for (int i = 0; i < 12; i++) {
            seen.add(on(bench, "field", i < 9 ? i / 3 : 19, i % 3));
        }
    }

    private static void lookAtFits(Object bench, List<Long> seen) {
        int[] shapes = {0, 1, 9, 10, 11, 12};
        for (int i = 0; i < 18; i++) {
            seen.add(on(bench, "fits", i / 6, shapes[i % 6]));
        }
        for (int i = 0; i < 18; i++) {
            seen.add(on(bench, "fit", 0, i / 3, 0, i % 3));
        }
        for (int i = 0; i < 9; i++) {
            seen.add(on(bench, "way", i / 3, i % 3, 0));
        }
    }

    private static void lookByCalling(Object bench, List<Long> seen) {
        for (int i = 0; i < 12; i++) {
            seen.add(on(bench, "call", i / 6, 0, i % 6));
            seen.add(on(bench, "value"));
        }
        for (int i = 0; i < 7; i++) {
            seen.add(on(bench, "turn", i, (i + 3) % 7, 1));
            seen.add(on(bench, "value"));
        }
    }

    private static void lookByTelling(Object bench, List<Long> seen) {
        for (int i = 0; i < 32; i++) {
            seen.add(on(bench, "times", i / 16, i / 4 % 4, i % 4, 0));
        }
        for (int i = 0; i < 36; i++) {
            seen.add(on(bench, "alias", i / 6, i % 6, 0));
        }
        seen.add(on(bench, "rule", 0, 1, 1, 0));
        seen.add(on(bench, "object", 0));
        for (int rule = 32; rule >= 12; rule--) {
            seen.add(on(bench, "drop", rule));
            // The cost of a RULE that a refused call spoilt may show only when THE TURNING is found anew.
            seen.add(on(bench, "turning", rule % 3 * 2, 3, 0));
        }
        for (int i = 0; i < 20; i++) {
            seen.add(on(bench, "strip", i / 10, i % 10));
        }
    }

    /** By a MEMBER that gives nothing but the CONSTANT, on OBJECT 0, which is of CLASS 0. */
    private static void lookAtConstants(Object bench, List<Long> seen) {
        on(bench, "ask", 0, 50, 3);
        for (int i = 0; i < 7; i++) {
            on(bench, "offer", 0, 50, 3 + 8 * (i + 1));
            seen.add(on(bench, "call", 0, 0, 0));
            seen.add(on(bench, "value"));
            seen.add(on(bench, "constant", i, 0, 0));
            on(bench, "strip", 0, 0);
        }
    }
}
