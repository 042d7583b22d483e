/** Counts and prints the answers of one test that are not the ones that are due. */
final class Due {
    private final String test;
    private String sentence = "";
    private int wrong;
    private int asked;

    Due(String test) {
        this.test = test;
    }

    /** A test of one sentence of the document, whose words stand before each of its wrong answers. */
    void sentence(String words, Runnable itsTest) {
        int before = asked;
        sentence = "\"" + words + "\": ";
        itsTest.run();
        holds("something is asked", asked > before);
        sentence = "";
    }

    void is(String call, long want, long got) {
        asked++;
        if (got != want) {
            wrong++;
            System.out.println(test + ": " + sentence + call + " answered " + got + ", due is " + want);
        }
    }

    void holds(String what, boolean isSo) {
        is(what, 1, isSo ? 1 : 0);
    }

    int wrong() {
        return wrong;
    }

    /** Ends the program: with exit code 1 if an answer was wrong, or if nothing was asked. */
    void close() {
        System.out.println(test + ": " + asked + " answers, " + wrong + " wrong");
        System.exit(wrong == 0 && asked > 0 ? 0 : 1);
    }
}
