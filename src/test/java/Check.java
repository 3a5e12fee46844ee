/** Counts what is not as due, and ends a test with exit code 1 if there was one. */
final class Check {
    private static final int MOST_SHOWN = 40;

    private final String test;
    private int wrong;
    private int looked;

    Check(String test) {
        this.test = test;
    }

    void due(String what, long got, long want) {
        looked++;
        if (got != want) {
            miss(what + " answered " + got + ", due is " + want);
        }
    }

    void holds(String what, boolean so) {
        looked++;
        if (!so) {
            miss(what);
        }
    }

    boolean failed() {
        return wrong > 0;
    }

    void end() {
        System.out.println(test + ": " + looked + " looks, " + wrong + " not as due");
        if (wrong > 0 || looked == 0) {
            System.exit(1);
        }
    }

    private void miss(String message) {
        wrong++;
        if (wrong <= MOST_SHOWN) {
            System.out.println(test + ": " + message);
        }
    }
}
