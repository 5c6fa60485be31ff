/** Counts answers that are not as due, prints each of them, and ends the test by that. */
final class Checks {
    private int asked = 0;
    private int wrong = 0;
    private String promise = "";

    /** Says which promise the checks that follow are about. */
    void promise(int number, String about) {
        promise = "promise " + number + " (" + about + ")";
    }

    void due(String call, long got, long want) {
        asked++;
        if (got != want) {
            wrong++;
            System.out.println(promise + ": " + call + " answered " + got + ", due is " + want);
        }
    }

    void holds(String what, boolean so) {
        asked++;
        if (!so) {
            wrong++;
            System.out.println(promise + ": it does not hold that " + what);
        }
    }

    boolean isClean() {
        return wrong == 0;
    }

    void end() {
        System.out.println(asked + " checks, " + wrong + " wrong");
        if (wrong != 0 || asked == 0) {
            System.exit(1);
        }
    }
}
