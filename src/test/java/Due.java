/** Counts answers, prints each that is not the one that is due, and ends the test with 1 if there was one. */
final class Due {
    private final String test;
    private String sentence = "";
    private int checks;
    private int wrong;

    Due(String test) {
        this.test = test;
    }

    /** The promise or term, and its sentence, that the checks from here on belong to. */
    void of(String sentence) {
        this.sentence = "[" + sentence + "] ";
    }

    void is(String call, int got, int want) {
        checks++;
        if (got != want) {
            wrong++;
            System.out.println(test + ": " + sentence + call + " answered " + got + ", due is " + want);
        }
    }

    void holds(String what, boolean good) {
        checks++;
        if (!good) {
            wrong++;
            System.out.println(test + ": " + sentence + "not so: " + what);
        }
    }

    boolean anyWrong() {
        return wrong > 0;
    }

    void end() {
        System.out.println(test + ": " + checks + " checks, " + wrong + " wrong");
        if (wrong > 0 || checks == 0) {
            System.exit(1);
        }
    }
}
