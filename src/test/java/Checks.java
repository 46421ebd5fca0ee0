/** Compares answers with those that are due, and counts and prints the wrong ones. */
final class Checks {
    private static final int MOST_SHOWN = 40;

    private final String name;
    private int made;
    private int wrong;

    Checks(String name) {
        this.name = name;
    }

    void due(String call, long got, long want) {
        made++;
        if (got != want) {
            note(call + " answered " + got + ", due is " + want);
        }
    }

    void sure(String what, boolean holds) {
        made++;
        if (!holds) {
            note(what + " does not hold");
        }
    }

    boolean anyWrong() {
        return wrong > 0;
    }

    /** Prints the count and ends the run with exit code 1 if an answer was wrong. */
    void end() {
        System.out.println(name + ": " + made + " checks, " + wrong + " wrong");
        if (wrong > 0 || made == 0) {
            System.exit(1);
        }
    }

    private void note(String text) {
        wrong++;
        if (wrong <= MOST_SHOWN) {
            System.out.println(name + ": " + text);
        }
    }
}
