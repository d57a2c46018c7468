import java.lang.reflect.InvocationTargetException;
import java.lang.reflect.Method;
import java.util.ArrayList;
import java.util.Comparator;
import java.util.List;

/** No call throws, whatever its arguments are, in whatever order calls come; the same calls answer the same. */
public final class WildTest {
    private static final int[] EDGES = {
        Integer.MIN_VALUE, Integer.MIN_VALUE + 1, -65536, -101, -100, -99, -61, -60, -21, -16, -5, -4, -3, -2, -1, 0, 1, 2,
        3, 4, 5, 6, 7, 8, 9, 10, 11, 14, 15, 16, 17, 19, 20, 21, 24, 25, 26, 59, 60, 61, 98, 99, 100, 101, 127, 128, 65535,
        65536, Integer.MAX_VALUE - 1, Integer.MAX_VALUE
    };
    private static final String SIGNS = "thick 9 (c<9)&m=0|!s>1;thin 1 b=1;spoon 5;milk 22;";

    private long seed = 41;

    public static void main(String[] args) throws Exception {
        Due due = new Due();
        List<Method> face = new ArrayList<>();
        for (Method m : BearMouse.class.getMethods()) {
            if (m.getDeclaringClass() == BearMouse.class) {
                face.add(m);
            }
        }
        face.sort(Comparator.comparing(Method::getName));
        due.is("methods", face.size(), 42);
        WildTest wild = new WildTest();
        for (int run = 0; run < 400; run++) {
            wild.go(due, face, run);
        }
        due.end();
    }

    private int below(int n) {
        seed = seed * 6364136223846793005L + 1442695040888963407L;
        return (int) ((seed >>> 33) % n);
    }

    private void go(Due due, List<Method> face, int run) throws Exception {
        BearMouse x = new BearMouse();
        BearMouse twin = new BearMouse();
        int tame = below(3);
        for (int k = 0; k < 512; k++) {
            Method m = face.get(below(face.size()));
            Object[] args = new Object[m.getParameterCount()];
            for (int i = 0; i < args.length; i++) {
                args[i] = some(m.getParameterTypes()[i], tame);
            }
            if (m.getName().equals("feed") && below(8) != 0) {
                args[0] = (int) SIGNS.charAt(x.count(5) % SIGNS.length());
            }
            String call = "run " + run + ", call " + k + ": " + m.getName();
            try {
                due.is(call, ((Number) m.invoke(x, args)).longValue(), ((Number) m.invoke(twin, args)).longValue());
            } catch (InvocationTargetException e) {
                due.holds(call + List.of(args) + " threw " + e.getCause(), false);
            }
        }
    }

    private Object some(Class<?> type, int tame) {
        if (type == boolean.class) {
            return below(2) == 0;
        }
        int n = below(3) < tame ? below(6) : EDGES[below(EDGES.length)];
        if (type == long.class) {
            return below(2) == 0 ? seed : (long) n;
        }
        return n;
    }
}
