import java.lang.reflect.InvocationTargetException;
import java.lang.reflect.Method;
import java.lang.reflect.Modifier;
import java.util.ArrayList;
import java.util.Comparator;
import java.util.List;

/** Every call with numbers from near and far in every place: none throws, in whatever state. */
public final class NeverThrowsTest {
    private static final int OBJECTS = 60, CALLS = 4000;
    private static final long[] EDGES = {
        -1, 0, 1, 2, 3, 4, 5, 6, 7, 8, 9, 10, 11, 12, 19, 20, 21, 22, 23, 29, 30, 200, 201, -2, -9,
        Integer.MAX_VALUE, Integer.MIN_VALUE, Long.MAX_VALUE, Long.MIN_VALUE};
    private static final Checks c = new Checks();
    private static long seed = 4711;

    public static void main(String[] args) throws IllegalAccessException {
        c.promise(0, "no call throws");
        List<Method> calls = new ArrayList<>();
        for (Method m : FolderRows.class.getDeclaredMethods()) {
            if (Modifier.isPublic(m.getModifiers())) {
                calls.add(m);
            }
        }
        // Reflection tells methods in no fixed order, and the test is to be the same each time.
        calls.sort(Comparator.comparing(Method::getName));
        c.due("number of calls", calls.size(), 30);
        for (int object = 0; object < OBJECTS && c.isClean(); object++) {
            run(new FolderRows(), calls, 2 + object % 9);
        }
        c.end();
    }

    private static void run(FolderRows x, List<Method> calls, int far) throws IllegalAccessException {
        x.machines(1 + pick(4));
        for (int i = 0; i < CALLS && c.isClean(); i++) {
            Method call = calls.get(pick(calls.size()));
            // Else no state would ever grow.
            if (call.getName().equals("machines") && pick(40) != 0) {
                continue;
            }
            ask(x, call, far);
        }
    }

    private static void ask(FolderRows x, Method call, int far) throws IllegalAccessException {
        Class<?>[] types = call.getParameterTypes();
        Object[] given = new Object[types.length];
        for (int p = 0; p < types.length; p++) {
            long number = pick(far) == 0 ? EDGES[pick(EDGES.length)] : pick(5);
            if (types[p] == long.class) {
                given[p] = number;
            } else {
                given[p] = (int) number;
            }
        }
        try {
            call.invoke(x, given);
            c.holds("it ends", true);
        } catch (InvocationTargetException thrown) {
            c.holds(call.getName() + java.util.Arrays.toString(given) + " ends without " + thrown.getCause(), false);
        }
    }

    private static int pick(int n) {
        seed = seed * 6364136223846793005L + 1442695040888963407L;
        return (int) ((seed >>> 33) % n);
    }
}
