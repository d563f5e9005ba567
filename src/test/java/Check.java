/** Counts and prints the answers of one test that are not as due. */
final class Check {
    private static final int MOST_PRINTED = 40;
    private int looked;
    private int wrong;
    private String sentence = "";
    private int sentences;
    private int lookedBefore;

    /** The words of the document for which the answers from here on stand. */
    void sentence(String words) {
        endSentence();
        sentence = words;
        sentences++;
        lookedBefore = looked;
    }

    private void endSentence() {
        if (sentences > 0 && looked == lookedBefore) {
            tell("no answer was looked at");
        }
    }

    void due(String what, long got, long want) {
        looked++;
        if (got != want) {
            tell(what + " answered " + got + ", due is " + want);
        }
    }

    /** The class must be the very one: a class below or above it is wrong too. */
    void dueThrow(String what, Class<? extends RuntimeException> want, Runnable call) {
        looked++;
        Class<?> got = null;
        try {
            call.run();
        } catch (RuntimeException e) {
            got = e.getClass();
        }
        if (got != want) {
            tell(what + " threw " + got + ", due is " + want);
        }
    }

    /** Two looks at one console must show the same. */
    void dueSame(String what, int[] before, int[] now) {
        for (int i = 0; i < Look.SIZE; i++) {
            due(what + " leaves " + Look.name(i), now[i], before[i]);
        }
    }

    private void tell(String text) {
        wrong++;
        if (wrong <= MOST_PRINTED) {
            System.out.println(sentence.isEmpty() ? text : "'" + sentence + "': " + text);
        }
    }

    void finish() {
        endSentence();
        if (sentences > 0) {
            System.out.print(sentences + " sentences, ");
        }
        System.out.println(looked + " answers, " + wrong + " of them wrong");
        if (wrong != 0 || looked == 0) {
            System.exit(1);
        }
    }
}
