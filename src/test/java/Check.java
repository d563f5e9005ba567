/** Counts and prints the answers of one test that are not as due. */
final class Check {
    private static final int MOST_PRINTED = 40;
    private int looked;
    private int wrong;

    void due(String what, long got, long want) {
        looked++;
        if (got != want) {
            tell(what + " answered " + got + ", due is " + want);
        }
    }

    /** The class must be the very one: a class below or above it is wrong too. */
    void dueThrow(String what, Class<? extends RuntimeException> want, Runnable call) {
        looked++;
        Class<?> got = null;
        try {
            call.run();
        } catch (RuntimeException e) {
            got = e.getClass();
        }
        if (got != want) {
            tell(what + " threw " + got + ", due is " + want);
        }
    }

    private void tell(String text) {
        wrong++;
        if (wrong <= MOST_PRINTED) {
            System.out.println(text);
        }
    }

    void finish() {
        System.out.println(looked + " answers, " + wrong + " of them wrong");
        if (wrong != 0 || looked == 0) {
            System.exit(1);
        }
    }
}
