/** Compares answers with those that are due, and counts and prints the wrong ones. */
final class Checks {
    private static final int MOST_SHOWN = 40;

    private final String name;
    private String test = "";
    private int made;
    private int wrong;

    Checks(String name) {
        this.name = name;
    }

    /** From here on, wrong answers are printed with this test's name. */
    void begin(String newTest) {
        test = " " + newTest;
    }

    void due(String call, long got, long want) {
        made++;
        if (got != want) {
            note(call + " answered " + got + ", due is " + want);
        }
    }

    void rowDue(String call, int[] got, int... want) {
        due(call + " length", got.length, want.length);
        for (int i = 0; i < got.length && i < want.length; i++) {
            due(call + " [" + i + "]", got[i], want[i]);
        }
    }

    void sure(String what, boolean holds) {
        made++;
        if (!holds) {
            note(what + " does not hold");
        }
    }

    int made() {
        return made;
    }

    boolean anyWrong() {
        return wrong > 0;
    }

    /** Prints the count and ends the run with exit code 1 if an answer was wrong. */
    void end() {
        System.out.println(name + ": " + made + " checks, " + wrong + " wrong");
        if (wrong > 0 || made == 0) {
            System.exit(1);
        }
    }

    private void note(String text) {
        wrong++;
        if (wrong <= MOST_SHOWN) {
            System.out.println(name + test + ": " + text);
        }
    }
}
