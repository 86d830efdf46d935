import java.lang.reflect.InvocationTargetException;
import java.lang.reflect.Method;
import java.lang.reflect.Modifier;

/**
 * All promises: no call throws, whatever its arguments and in whatever state, and a refusal changes
 * nothing, but for count() 8 by a FINDING.
 */
public final class RefusalsTest {
    private static final int[] EDGES = {
        Integer.MIN_VALUE, Integer.MIN_VALUE + 1, -1000000, -2, -1, 0, 1, 2, 3, 5, 6, 15, 16, 17, 60, 61, 99, 100, 999, 1000,
        1999, 2000, 1 << 30, Integer.MAX_VALUE - 1, Integer.MAX_VALUE};
    private static final String[][] TEXTS = {
        {"", ""}, {"l9l9l9l9l9l9l9l9l9l9l9l9l9l9l9l9", "90.;90.;90.;90.;90.;90."}, {"..l4", "90h"}, {"l", "1"}, {"nsl9", ""}, {"", "19.;20h"}};

    public static void main(String[] args) throws Exception {
        for (String[] texts : TEXTS) {
            for (Method m : StonesAbove.class.getDeclaredMethods()) {
                if (Modifier.isPublic(m.getModifiers())) {
                    callWithEdges(m, texts);
                }
            }
        }
        Check.end();
    }

    private static void callWithEdges(Method m, String[] texts) throws Exception {
        int n = m.getParameterCount();
        int calls = n == 0 ? 1 : n == 1 ? EDGES.length : n == 2 ? EDGES.length * EDGES.length : 400;
        java.util.Random random = new java.util.Random(m.getName().hashCode());
        StonesAbove x = ready(texts);
        long before = state(x);
        for (int c = 0; c < calls; c++) {
            Object[] arguments = new Object[n];
            for (int i = 0; i < n; i++) {
                int edge = n > 2 ? random.nextInt(EDGES.length) : i == 0 ? c % EDGES.length : c / EDGES.length;
                arguments[i] = EDGES[edge];
            }
            long answer = call(x, m, arguments);
            if (isRefusal(m, answer)) {
                Check.due(told(m, arguments) + " changes nothing", state(x), before);
            } else {
                x = ready(texts);
            }
        }
    }

    private static StonesAbove ready(String[] texts) {
        StonesAbove x = Check.with(texts[0], texts[1]);
        x.set(4, 2);
        x.fell(0, 0, 1);
        x.sheet(0, 0, 5);
        x.sheet(1, 1, 60);
        x.sheet(2, 2, 0);
        return x;
    }

    /** All that can be asked of an object, in one number. */
    private static long state(StonesAbove x) {
        long h = x.digest();
        for (int s = 0; s < 4; s++) {
            for (int form = 0; form < 3; form++) {
                for (int i = 0; i < 60; i += 19) {
                    h = 31 * h + x.get(s, form, i);
                }
            }
        }
        return h;
    }

    private static boolean isRefusal(Method m, long answer) {
        if (m.getName().equals("get")) {
            return answer == Integer.MIN_VALUE;
        }
        if (m.getReturnType() == long.class) {
            return answer < Long.MIN_VALUE + 20;
        }
        return answer <= -2;
    }

    private static long call(StonesAbove x, Method m, Object[] arguments) throws Exception {
        try {
            return ((Number) m.invoke(x, arguments)).longValue();
        } catch (InvocationTargetException e) {
            Check.due(told(m, arguments) + " threw " + e.getCause(), 1, 0);
            return 0;
        }
    }

    private static String told(Method m, Object[] arguments) {
        return m.getName() + java.util.Arrays.toString(arguments);
    }
}
