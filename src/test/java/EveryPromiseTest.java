import java.lang.reflect.Method;
import java.lang.reflect.Modifier;

/** Every promise of the document has tests of its boundary cases that bear its number. */
public final class EveryPromiseTest {
    private static final int PROMISES = 31;
    private static final Class<?>[] EDGES = {BoundsTest.class, RefusalsTest.class, LimitsTest.class};
    private static final Checks c = new Checks();

    public static void main(String[] args) {
        c.promise(0, "a test for each");
        int[] found = new int[PROMISES + 1];
        for (Class<?> tests : EDGES) {
            for (Method test : Checks.testsOf(tests)) {
                int promise = Integer.parseInt(test.getName().substring(7, 9));
                c.holds(test.getName() + " bears a promise's number", promise >= 1 && promise <= PROMISES);
                c.holds(test.getName() + " can be run by itself",
                    Modifier.isStatic(test.getModifiers()) && test.getParameterCount() == 0);
                if (promise >= 1 && promise <= PROMISES) {
                    found[promise]++;
                }
            }
        }
        for (int p = 1; p <= PROMISES; p++) {
            c.holds("promise " + p + " has a test of its boundary cases", found[p] > 0);
        }
        c.end();
    }
}
