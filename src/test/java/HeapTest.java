/** Promises 2 to 7: the heap. */
public final class HeapTest {
    private static final Due DUE = new Due("HeapTest");

    public static void main(String[] args) {
        strokesComeFromBothEnds();
        strokeRefusesWhatDoesNotFit();
        strokeIsFullAt30();
        cutTakesAllOfAPlace();
        placeTellsTonsAndLime();
        spreadIsOverPlacesThatAreNotCut();
        strokeSpreadIsAsItWasLaid();
        clearBeginsAnew();
        DUE.end();
    }

    private static void strokesComeFromBothEnds() {
        KilnLine x = new KilnLine();
        DUE.is("stroke(100, 5, 2)", x.stroke(100, 5, 2), 1);
        for (int p = 0; p <= 9; p++) {
            DUE.is("place(p, 1) after one", x.place(p, 1), 5 + 2 * p);
        }
        DUE.is("stroke(60, 50, -3)", x.stroke(60, 50, -3), 2);
        for (int p = 0; p <= 9; p++) {
            DUE.is("place(p, 1) after two", x.place(p, 1), 5 + 2 * p + 50 - 3 * (9 - p));
            DUE.is("place(p, 0) after two", x.place(p, 0), 160);
        }
        DUE.is("stroke(1, 0, 0)", x.stroke(1, 0, 0), 3);
        DUE.is("stroke(10, 0, 1)", x.stroke(10, 0, 1), 4);
        DUE.is("place(0, 1) after four", x.place(0, 1), 5 + 50 - 27 + 0 + 9);
        DUE.is("place(9, 1) after four", x.place(9, 1), 23 + 50 + 0 + 0);
        DUE.is("count(0)", x.count(0), 4);
    }

    private static void strokeRefusesWhatDoesNotFit() {
        KilnLine x = new KilnLine();
        int[][] bad = {
            {0, 0, 0}, {-1, 0, 0}, {1001, 0, 0}, {Integer.MAX_VALUE, 0, 0}, {Integer.MIN_VALUE, 0, 0},
            {10, -1, 0}, {10, 11, 0}, {10, -1, 1}, {10, 11, -1}, {9, 1, 1}, {10, 8, -1},
            {1000, 0, 112}, {1000, 1000, -112}, {1000, Integer.MAX_VALUE, Integer.MIN_VALUE},
            // 9 times this d wraps around to 5, as an int
            {1000, 0, 477218589}, {1000, 0, Integer.MIN_VALUE}, {1000, 0, Integer.MAX_VALUE},
        };
        for (int[] b : bad) {
            DUE.is("stroke(" + b[0] + ", " + b[1] + ", " + b[2] + ")", x.stroke(b[0], b[1], b[2]), KilnLine.BAD);
        }
        DUE.is("count(0)", x.count(0), 0);
        DUE.is("place(3, 0)", x.place(3, 0), 0);
        DUE.is("stroke(1, 1, 0)", x.stroke(1, 1, 0), 1);
        DUE.is("stroke(1000, 1, 111)", x.stroke(1000, 1, 111), 2);
        DUE.is("stroke(9, 9, -1)", x.stroke(9, 9, -1), 3);
        DUE.is("stroke(9, 0, 1)", x.stroke(9, 0, 1), 4);
        DUE.is("stroke(1000, 1000, 0)", x.stroke(1000, 1000, 0), 5);
    }

    private static void strokeIsFullAt30() {
        KilnLine x = new KilnLine();
        for (int i = 1; i <= 30; i++) {
            DUE.is("stroke(1000, 1000, 0)", x.stroke(1000, 1000, 0), i);
        }
        long before = x.digest();
        DUE.is("stroke(1, 0, 0), the 31st", x.stroke(1, 0, 0), KilnLine.FULL);
        DUE.is("stroke(0, 0, 0): BAD ahead of FULL", x.stroke(0, 0, 0), KilnLine.BAD);
        DUE.is("stroke(5, 6, 0): BAD ahead of FULL", x.stroke(5, 6, 0), KilnLine.BAD);
        DUE.is("digest()", x.digest(), before);
        DUE.is("place(4, 0)", x.place(4, 0), 30000);
        DUE.is("strokeSpread(29)", x.strokeSpread(29), 0);
        DUE.is("strokeSpread(30)", x.strokeSpread(30), KilnLine.BAD);
        DUE.is("clear()", x.clear(), 30);
        DUE.is("stroke(1, 0, 0)", x.stroke(1, 0, 0), 1);
    }

    private static void cutTakesAllOfAPlace() {
        KilnLine x = new KilnLine();
        DUE.is("cut(-1)", x.cut(-1), KilnLine.BAD);
        DUE.is("cut(10)", x.cut(10), KilnLine.BAD);
        x.stroke(70, 7, 7);
        DUE.is("cut(9)", x.cut(9), 70);
        DUE.is("asked()", x.asked(), 70);
        DUE.is("cut(2)", x.cut(2), 70);
        DUE.is("asked()", x.asked(), 21);
        DUE.is("cut(2)", x.cut(2), KilnLine.STATE);
        DUE.is("asked() stays", x.asked(), 21);
        x.stroke(20, 1, 1);
        DUE.is("place(2, 0)", x.place(2, 0), 0);
        DUE.is("place(2, 1)", x.place(2, 1), 0);
        DUE.is("place(3, 0)", x.place(3, 0), 90);
        DUE.is("place(3, 1)", x.place(3, 1), 28 + 1 + 6);
        KilnLine y = new KilnLine();
        DUE.is("cut(0) of nothing", y.cut(0), 0);
        DUE.is("cut(0) again", y.cut(0), KilnLine.STATE);
    }

    private static void placeTellsTonsAndLime() {
        KilnLine x = new KilnLine();
        x.stroke(30, 30, 0);
        DUE.is("place(0, 0)", x.place(0, 0), 30);
        DUE.is("place(9, 1)", x.place(9, 1), 30);
        DUE.is("place(-1, 0)", x.place(-1, 0), KilnLine.BAD);
        DUE.is("place(10, 0)", x.place(10, 0), KilnLine.BAD);
        DUE.is("place(0, -1)", x.place(0, -1), KilnLine.BAD);
        DUE.is("place(0, 2)", x.place(0, 2), KilnLine.BAD);
    }

    private static void spreadIsOverPlacesThatAreNotCut() {
        KilnLine x = new KilnLine();
        x.stroke(100, 10, 10);
        DUE.is("spread()", x.spread(), 90);
        x.cut(0);
        DUE.is("spread() without PLACE 0", x.spread(), 80);
        x.cut(9);
        DUE.is("spread() without PLACES 0, 9", x.spread(), 70);
        x.cut(4);
        DUE.is("spread() without PLACES 0, 4, 9", x.spread(), 70);
        x.stroke(100, 100, -11);
        DUE.is("spread() after the 2nd", x.spread(), 70 + 77);
        for (int p = 1; p <= 7; p++) {
            x.cut(p);
        }
        DUE.is("spread() of one PLACE", x.spread(), 0);
        x.cut(8);
        DUE.is("spread() of none", x.spread(), KilnLine.NONE);
        DUE.is("stroke on none", x.stroke(10, 5, 0), 3);
        DUE.is("spread() of none", x.spread(), KilnLine.NONE);
        DUE.is("place(8, 0)", x.place(8, 0), 0);
    }

    private static void strokeSpreadIsAsItWasLaid() {
        KilnLine x = new KilnLine();
        x.stroke(1000, 1000, -111);
        x.stroke(100, 1, 11);
        x.cut(0);
        x.cut(9);
        x.stroke(100, 0, 4);
        DUE.is("strokeSpread(0)", x.strokeSpread(0), 999);
        DUE.is("strokeSpread(1)", x.strokeSpread(1), 99);
        DUE.is("strokeSpread(2) on CUT PLACES too", x.strokeSpread(2), 36);
        DUE.is("strokeSpread(3)", x.strokeSpread(3), KilnLine.BAD);
        DUE.is("strokeSpread(-1)", x.strokeSpread(-1), KilnLine.BAD);
        x.clear();
        DUE.is("strokeSpread(0)", x.strokeSpread(0), KilnLine.BAD);
    }

    private static void clearBeginsAnew() {
        KilnLine x = new KilnLine();
        DUE.is("clear() of nothing", x.clear(), 0);
        x.stroke(100, 10, 1);
        x.cut(5);
        DUE.is("clear()", x.clear(), 1);
        DUE.is("asked() stays", x.asked(), 15);
        DUE.is("count(0)", x.count(0), 0);
        for (int p = 0; p <= 9; p++) {
            DUE.is("place(p, 0)", x.place(p, 0), 0);
            DUE.is("place(p, 1)", x.place(p, 1), 0);
        }
        DUE.is("digest() as new", x.digest(), new KilnLine().digest());
        // It is the first STROKE again, and no PLACE is CUT.
        DUE.is("stroke(100, 0, 3)", x.stroke(100, 0, 3), 1);
        DUE.is("place(5, 1)", x.place(5, 1), 15);
        DUE.is("cut(5)", x.cut(5), 100);
    }
}
