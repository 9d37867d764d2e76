/** Compares answers with those that are due, and tells at the end whether one was wrong. */
final class Due {
    private final String test;
    private String sentence = "";
    private int asked = 0;
    private int wrong = 0;

    Due(String test) {
        this.test = test;
    }

    /** The sentence of the document that the next answers are due by, to be told with a wrong one. */
    void by(String sentence) {
        this.sentence = "[" + sentence + "] ";
    }

    void is(String what, long got, long due) {
        asked++;
        if (got != due) {
            wrong++;
            System.out.println(sentence + what + ": answered " + got + ", due is " + due);
        }
    }

    void holds(String what, boolean got) {
        is(what, got ? 1 : 0, 1);
    }

    void fails(String what, boolean got) {
        is(what, got ? 1 : 0, 0);
    }

    void end() {
        System.out.println(test + ": " + asked + " answers, " + wrong + " wrong");
        if (wrong != 0) {
            System.exit(1);
        }
    }
}
