/** Counts and prints the answers that are not as due. */
final class Due {
    // One fault can make a million answers wrong: beyond so many of a sentence they are only counted.
    private static final int PRINTED_AT_MOST = 200;

    private String sentence = "";
    private int asked = 0;
    private int askedOfSentence = 1;
    private int wrong = 0;
    private int wrongOfSentence = 0;

    /** The document's promise or sentence that the next answers are due by: a wrong one is printed under it. */
    void by(String nextSentence) {
        endSentence();
        sentence = nextSentence + ": ";
        askedOfSentence = 0;
        wrongOfSentence = 0;
    }

    void is(Object call, int got, int want) {
        asked++;
        askedOfSentence++;
        if (got != want) {
            wrong++;
            wrongOfSentence++;
            if (wrongOfSentence <= PRINTED_AT_MOST) {
                System.out.println(sentence + call + " answered " + got + ", due is " + want);
            }
        }
    }

    /** Ends the test: exit code 1 when an answer was wrong, or when nothing was asked at all. */
    void end() {
        endSentence();
        System.out.println(asked + " answers, " + wrong + " not as due");
        if (wrong != 0 || asked == 0) {
            System.exit(1);
        }
    }

    /** A sentence that nothing was asked of has no test, whatever its method is called. */
    private void endSentence() {
        if (askedOfSentence == 0) {
            wrong++;
            System.out.println(sentence + "nothing was asked");
        }
    }
}
