/** Compares answers with what is due, and ends a test program as .ci/run wants it. */
final class Checks {
    static final long LOW = -1000000000L;
    static final long BEYOND = LOW - 1;
    static final long NONE = LOW - 2;
    static final long STATE = LOW - 3;
    static final long FULL = LOW - 4;
    static final long KIND = LOW - 5;
    static final long PARTED = LOW - 6;

    private static int done;
    private static int wrong;
    private static int sentences;
    private static int doneAtSentence;
    private static String sentence = "";

    private Checks() {
    }

    /** What is looked at from here on is asked by this sentence of the document, told in its words. */
    static void sentence(String words) {
        endSentence();
        sentence = words;
        doneAtSentence = done;
        sentences++;
    }

    private static void endSentence() {
        if (!sentence.isEmpty() && done == doneAtSentence) {
            wrong++;
            System.out.println("nothing was looked at for: " + sentence);
        }
    }

    static void due(String what, long got, long want) {
        done++;
        if (got != want) {
            wrong++;
            if (wrong <= 50) {
                String asked = sentence.isEmpty() ? "" : " [" + sentence + "]";
                System.out.println(what + " answered " + got + ", due is " + want + asked);
            }
        }
    }

    static boolean allRight() {
        return wrong == 0;
    }

    static void end() {
        endSentence();
        String of = sentences == 0 ? "" : sentences + " sentences, ";
        System.out.println(of + done + " answers looked at, " + wrong + " not as due");
        if (wrong != 0 || done == 0) {
            System.exit(1);
        }
    }
}
