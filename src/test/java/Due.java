/** Counts the answers that are not the ones due, and ends a test. */
final class Due {
    private final String test;
    private String sentence = "";
    private int looked = 0;
    private int wrong = 0;

    Due(String test) {
        this.test = test;
    }

    /** Names the sentence of the document by which the answers behind this call are due. */
    void by(String words) {
        sentence = " (" + words + ")";
    }

    void is(String call, long got, long want) {
        looked++;
        if (got != want) {
            wrong++;
            System.out.println(test + sentence + ": " + call + " answered " + got + ", due is " + want);
        }
    }

    void holds(String what, boolean so) {
        looked++;
        if (!so) {
            wrong++;
            System.out.println(test + sentence + ": not so: " + what);
        }
    }

    void end() {
        System.out.println(test + ": " + looked + " answers, " + wrong + " wrong");
        if (wrong != 0 || looked == 0) {
            System.exit(1);
        }
    }
}
