import java.lang.reflect.InvocationTargetException;
import java.lang.reflect.Method;
import java.util.ArrayList;
import java.util.Comparator;
import java.util.List;
import java.util.function.LongSupplier;

/** Counts answers that are not as due, prints each of them, and ends the test by that. */
final class Checks {
    private static final String TEST = "promise[0-9][0-9]_.*";

    private int asked = 0;
    private int wrong = 0;
    private String promise = "";

    /** Says which promise the checks that follow are about. */
    void promise(int number, String about) {
        promise = "promise " + number + " (" + about + ")";
    }

    void due(String call, long got, long want) {
        asked++;
        if (got != want) {
            wrong++;
            System.out.println(promise + ": " + call + " answered " + got + ", due is " + want);
        }
    }

    void holds(String what, boolean so) {
        asked++;
        if (!so) {
            wrong++;
            System.out.println(promise + ": it does not hold that " + what);
        }
    }

    /** A call that is refused: it answers so, and all that the object tells is as it was. */
    void refused(FolderRows x, String call, LongSupplier asking, long want) {
        String before = Snapshot.of(x);
        due(call, asking.getAsLong(), want);
        holds(call + ", being refused, changes nothing", before.equals(Snapshot.of(x)));
    }

    /** Runs the tests of a class: its methods whose names begin with the promise that they hold. */
    void runAll(Class<?> tests) {
        for (Method test : testsOf(tests)) {
            promise = test.getName();
            int before = asked;
            try {
                test.invoke(null);
            } catch (IllegalAccessException | InvocationTargetException thrown) {
                holds("it ends without " + thrown + " of " + thrown.getCause(), false);
            }
            holds("it asks something", asked > before);
        }
    }

    static List<Method> testsOf(Class<?> tests) {
        List<Method> found = new ArrayList<>();
        for (Method m : tests.getDeclaredMethods()) {
            if (m.getName().matches(TEST)) {
                found.add(m);
            }
        }
        found.sort(Comparator.comparing(Method::getName));
        return found;
    }

    boolean isClean() {
        return wrong == 0;
    }

    void end() {
        System.out.println(asked + " checks, " + wrong + " wrong");
        if (wrong != 0 || asked == 0) {
            System.exit(1);
        }
    }
}
