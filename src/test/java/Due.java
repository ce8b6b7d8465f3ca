/** Counts and prints the calls of a test whose answer is not the one that is due. */
final class Due {
    private final String test;
    private String words = "";
    private int askedOfWords = 1;
    private int wrong;
    private int asked;

    Due(String test) {
        this.test = test;
    }

    /** What is asked from here on is about these words of the document. */
    void sentence(String told) {
        endSentence();
        words = " \"" + told + "\":";
        askedOfWords = 0;
    }

    void is(String call, long got, long want) {
        asked++;
        askedOfWords++;
        if (got != want) {
            wrong++;
            if (wrong <= 50) {
                System.out.println(test + ":" + words + " " + call + " answered " + got + ", due is " + want);
            }
        }
    }

    void is(String call, boolean got, boolean want) {
        is(call, got ? 1 : 0, want ? 1 : 0);
    }

    void same(String call, String got, String want) {
        is(call + "\n  " + got + "\n  " + want + "\n ", got.equals(want), true);
    }

    boolean hasWrong() {
        return wrong != 0;
    }

    void end() {
        endSentence();
        System.out.println(test + ": " + asked + " answers, " + wrong + " not as due");
        if (wrong != 0) {
            System.exit(1);
        }
    }

    /** A sentence of which nothing was asked has no test. */
    private void endSentence() {
        if (askedOfWords == 0) {
            wrong++;
            System.out.println(test + ":" + words + " nothing was asked");
        }
    }
}
