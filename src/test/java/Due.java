/** Counts the answers that are not the ones due, and ends a test. */
final class Due {
    private final String test;
    private String sentence = "";
    private int looked = 0;
    private int wrong = 0;

    Due(String test) {
        this.test = test;
    }

    /** Names the sentence of the document by which the answers behind this call are due. */
    void by(String words) {
        sentence = " (" + words + ")";
    }

    void is(String call, long got, long want) {
        looked++;
        if (got != want) {
            wrong++;
            System.out.println(test + sentence + ": " + call + " answered " + got + ", due is " + want);
        }
    }

    void holds(String what, boolean so) {
        looked++;
        if (!so) {
            wrong++;
            System.out.println(test + sentence + ": not so: " + what);
        }
    }

    void stuffs(KilnLine x, int... due) {
        for (int z = 0; z < due.length; z++) {
            is("zone(" + z + ", 0)", x.zone(z, 0), due[z]);
        }
    }

    void heats(KilnLine x, int... due) {
        for (int z = 0; z < due.length; z++) {
            is("zone(" + z + ", 1)", x.zone(z, 1), due[z]);
        }
    }

    /** Of SILO 0. */
    void silo(KilnLine x, int tons, int lots) {
        is("silo(0, 0)", x.silo(0, 0), tons);
        is("silo(0, 1)", x.silo(0, 1), lots);
    }

    /** Of the latest BAG: a STEP and tons for each LOT, and none behind these. */
    void lots(KilnLine x, int... due) {
        int most = due.length / 2;
        for (int i = 0; i < most; i++) {
            is("lot(" + i + ", 0)", x.lot(i, 0), due[2 * i]);
            is("lot(" + i + ", 1)", x.lot(i, 1), due[2 * i + 1]);
        }
        is("lot(" + most + ", 0)", x.lot(most, 0), KilnLine.NONE);
        is("lot(" + most + ", 1)", x.lot(most, 1), KilnLine.NONE);
    }

    void end() {
        System.out.println(test + ": " + looked + " answers, " + wrong + " wrong");
        if (wrong != 0 || looked == 0) {
            System.exit(1);
        }
    }
}
