/** Promises 2 to 7: each sentence on the heap that names a boundary. */
public final class HeapBoundsTest {
    private static final Due DUE = new Due("HeapBoundsTest");
    private static final Bounds NEW = new Bounds(DUE, KilnLine::new);
    private static final Bounds BUSY = new Bounds(DUE, Busy::line);
    private static final Bounds ONE_STROKE = new Bounds(DUE, () -> laid(1));
    private static final Bounds FULL = new Bounds(DUE, () -> laid(30));
    private static final Bounds ALL_CUT = new Bounds(DUE, () -> cutUpTo(laid(2), 9));

    public static void main(String[] args) {
        placesAre0To9();
        strokesAre30AtMost();
        strokesOnCutPlacesCountToo();
        tonsAre1To1000();
        eachSecondStrokeComesFromTheOtherEnd();
        limeOfTheNearEndIs0ToT();
        limeOfTheFarEndIs0ToT();
        limeThatWouldWrapAroundIsBad();
        badIsAheadOfFull();
        cutTakesAllThatLiesThere();
        cutOfNothing();
        cutTwiceIsState();
        laterStrokesLayNothingOnACutPlace();
        placeTellsOfTwoNumbers();
        placeOfNothing();
        spreadOfNothing();
        spreadOfOnePlaceAndOfNone();
        spreadLeavesOutCutPlaces();
        spreadOfAFullHeap();
        spreadOfAStrokeIsOverAllPlaces();
        strokeSpreadIsOfStrokesThatThereAre();
        clearOfNothing();
        clearOfAFullHeap();
        clearUndoesEachCut();
        DUE.end();
    }

    /** Each STROKE lays 1000 tons on each PLACE, with 111 times the PLACE's number of lime. */
    private static KilnLine laid(int strokes) {
        KilnLine x = new KilnLine();
        for (int i = 0; i < strokes; i++) {
            x.stroke(1000, i % 2 == 0 ? 0 : 999, i % 2 == 0 ? 111 : -111);
        }
        return x;
    }

    private static KilnLine cutUpTo(KilnLine x, int last) {
        for (int p = 0; p <= last; p++) {
            x.cut(p);
        }
        return x;
    }

    private static void placesAre0To9() {
        DUE.by("THE HEAP has PLACES 0 .. 9");
        BUSY.range("cut(%d)", KilnLine::cut, 0, 150, 9, 150);
        BUSY.range("place(%d, 0)", (x, p) -> x.place(p, 0), 0, 150, 9, 150);
        BUSY.range("place(%d, 1)", (x, p) -> x.place(p, 1), 0, 10, 9, 100);
    }

    private static void strokesAre30AtMost() {
        DUE.by("A STROKE (30 at most)");
        new Bounds(DUE, () -> laid(29)).taken("the 30th", x -> x.stroke(1, 1, 0), 30);
        FULL.refused("the 31st", x -> x.stroke(1, 1, 0), KilnLine.FULL);
        FULL.refused("the 31st", x -> x.stroke(1000, 0, 111), KilnLine.FULL);
        FULL.taken("count(0)", x -> x.count(0), 30);
        NEW.taken("the 1st", x -> x.stroke(1, 1, 0), 1);
    }

    private static void strokesOnCutPlacesCountToo() {
        DUE.by("A STROKE (30 at most)");
        KilnLine x = cutUpTo(new KilnLine(), 9);
        for (int i = 1; i <= 30; i++) {
            DUE.is("stroke " + i, x.stroke(10, 10, 0), i);
        }
        DUE.is("stroke 31", x.stroke(10, 10, 0), KilnLine.FULL);
        DUE.is("place(0, 0)", x.place(0, 0), 0);
    }

    private static void tonsAre1To1000() {
        DUE.by("lays t tons on each PLACE (1 .. 1000)");
        BUSY.range("stroke(%d, 0, 0)", (x, t) -> x.stroke(t, 0, 0), 1, 3, 1000, 3);
        for (int t : new int[] {1, 1000}) {
            KilnLine x = BUSY.taken("stroke", y -> y.stroke(t, 0, 0), 3);
            DUE.is("place(0, 0)", x.place(0, 0), 150 + t);
            DUE.is("place(9, 0)", x.place(9, 0), 150 + t);
        }
    }

    private static void eachSecondStrokeComesFromTheOtherEnd() {
        DUE.by("each second STROKE (the 2nd, 4th, ..) comes from the other end");
        for (int ahead : new int[] {0, 1, 2, 3, 28, 29}) {
            KilnLine x = laid(ahead);
            DUE.is("stroke " + (ahead + 1), x.stroke(100, 5, 10), ahead + 1);
            for (int p = 0; p <= 9; p++) {
                int number = ahead % 2 == 0 ? p : 9 - p;
                DUE.is("place(" + p + ", 1)", x.place(p, 1), ahead * 111 * p + 5 + 10 * number);
            }
        }
    }

    private static void limeOfTheNearEndIs0ToT() {
        DUE.by("Each lime is 0 .. t");
        for (Bounds line : new Bounds[] {NEW, ONE_STROKE}) {
            int answer = line == NEW ? 1 : 2;
            line.range("stroke(70, %d, 0)", (x, c) -> x.stroke(70, c, 0), 0, answer, 70, answer);
            line.range("stroke(1, %d, 0)", (x, c) -> x.stroke(1, c, 0), 0, answer, 1, answer);
            line.range("stroke(1000, %d, 0)", (x, c) -> x.stroke(1000, c, 0), 0, answer, 1000, answer);
            // The far end alone would fit.
            line.refused("stroke(70, -1, 1)", x -> x.stroke(70, -1, 1), KilnLine.BAD);
            line.refused("stroke(70, 71, -1)", x -> x.stroke(70, 71, -1), KilnLine.BAD);
        }
    }

    private static void limeOfTheFarEndIs0ToT() {
        DUE.by("Each lime is 0 .. t");
        for (Bounds line : new Bounds[] {NEW, ONE_STROKE}) {
            int answer = line == NEW ? 1 : 2;
            line.range("stroke(90, 0, %d)", (x, d) -> x.stroke(90, 0, d), 0, answer, 10, answer);
            line.range("stroke(90, 90, %d)", (x, d) -> x.stroke(90, 90, d), -10, answer, 0, answer);
            line.range("stroke(1000, 500, %d)", (x, d) -> x.stroke(1000, 500, d), -55, answer, 55, answer);
            line.taken("stroke(99, 0, 11): 99", x -> x.stroke(99, 0, 11), answer);
            line.refused("stroke(98, 0, 11): 99 of 98", x -> x.stroke(98, 0, 11), KilnLine.BAD);
            line.taken("stroke(99, 99, -11): 0", x -> x.stroke(99, 99, -11), answer);
            line.refused("stroke(99, 98, -11): -1", x -> x.stroke(99, 98, -11), KilnLine.BAD);
            line.taken("stroke(1000, 1, 111): 1000", x -> x.stroke(1000, 1, 111), answer);
            line.refused("stroke(1000, 2, 111): 1001", x -> x.stroke(1000, 2, 111), KilnLine.BAD);
            // PLACE 8 alone would fit.
            line.refused("stroke(8, 0, 1)", x -> x.stroke(8, 0, 1), KilnLine.BAD);
            line.refused("stroke(10, 8, -1)", x -> x.stroke(10, 8, -1), KilnLine.BAD);
        }
    }

    /** 9 times these are 5, -4, 1 and so on, as ints. */
    private static void limeThatWouldWrapAroundIsBad() {
        DUE.by("a lime that is not 0 .. t");
        int[] wrapping = {477218589, 477218588, 954437177, -477218589, -477218588, -954437177, 1 << 29, 1 << 30};
        for (Bounds line : new Bounds[] {NEW, ONE_STROKE}) {
            for (int d : wrapping) {
                line.refused("stroke(1000, 10, " + d + ")", x -> x.stroke(1000, 10, d), KilnLine.BAD);
            }
            line.refused("c of 2^31 - 1", x -> x.stroke(1000, Integer.MAX_VALUE, 1), KilnLine.BAD);
            line.refused("c of -2^31", x -> x.stroke(1000, Integer.MIN_VALUE, -1), KilnLine.BAD);
            line.refused("c and d", x -> x.stroke(1000, Integer.MAX_VALUE, Integer.MIN_VALUE), KilnLine.BAD);
        }
    }

    private static void badIsAheadOfFull() {
        DUE.by("in this order: BAD -1, FULL -2");
        FULL.refused("stroke(0, 0, 0)", x -> x.stroke(0, 0, 0), KilnLine.BAD);
        FULL.refused("stroke(1001, 0, 0)", x -> x.stroke(1001, 0, 0), KilnLine.BAD);
        FULL.refused("stroke(5, 6, 0)", x -> x.stroke(5, 6, 0), KilnLine.BAD);
        FULL.refused("stroke(5, -1, 0)", x -> x.stroke(5, -1, 0), KilnLine.BAD);
        FULL.refused("stroke(8, 0, 1)", x -> x.stroke(8, 0, 1), KilnLine.BAD);
    }

    private static void cutTakesAllThatLiesThere() {
        DUE.by("A CUT takes all that lies on a PLACE");
        for (int p : new int[] {0, 5, 9}) {
            KilnLine x = FULL.taken("cut(" + p + ")", y -> y.cut(p), 30000);
            DUE.is("asked()", x.asked(), 30 * 111 * p);
            for (int q = 0; q <= 9; q++) {
                DUE.is("place(" + q + ", 0)", x.place(q, 0), q == p ? 0 : 30000);
                DUE.is("place(" + q + ", 1)", x.place(q, 1), q == p ? 0 : 30 * 111 * q);
            }
        }
    }

    private static void cutOfNothing() {
        DUE.by("PLACE p is CUT: how many tons it had; the lime by asked()");
        KilnLine x = NEW.taken("cut(9)", y -> y.cut(9), 0);
        DUE.is("cut(9) again", x.cut(9), KilnLine.STATE);
        KilnLine y = Busy.line();
        y.clear();
        DUE.is("asked() ahead of it", y.asked(), 8);
        DUE.is("cut(0)", y.cut(0), 0);
        DUE.is("asked()", y.asked(), 0);
    }

    private static void cutTwiceIsState() {
        DUE.by("STATE: it is CUT");
        BUSY.refused("cut(4)", x -> x.cut(4), KilnLine.STATE);
        for (int p = 0; p <= 9; p++) {
            int place = p;
            ALL_CUT.refused("cut(" + p + ")", x -> x.cut(place), KilnLine.STATE);
        }
        ALL_CUT.refused("cut(10)", x -> x.cut(10), KilnLine.BAD);
        ALL_CUT.refused("cut(-1)", x -> x.cut(-1), KilnLine.BAD);
    }

    private static void laterStrokesLayNothingOnACutPlace() {
        DUE.by("it is CUT then, and later STROKES lay nothing there");
        for (int cut = 0; cut <= 9; cut++) {
            KilnLine x = laid(1);
            x.cut(cut);
            x.stroke(100, 100, 0);
            x.stroke(100, 100, 0);
            for (int p = 0; p <= 9; p++) {
                DUE.is("place(" + p + ", 0), PLACE " + cut + " CUT", x.place(p, 0), p == cut ? 0 : 1200);
                DUE.is("place(" + p + ", 1), PLACE " + cut + " CUT", x.place(p, 1), p == cut ? 0 : 111 * p + 200);
            }
            DUE.is("cut(" + cut + ") is STATE still", x.cut(cut), KilnLine.STATE);
        }
    }

    private static void placeTellsOfTwoNumbers() {
        DUE.by("What lies on a PLACE: tons (0), lime (1). BAD");
        BUSY.range("place(3, %d)", (x, what) -> x.place(3, what), 0, 150, 1, 40);
        BUSY.range("place(4, %d), CUT", (x, what) -> x.place(4, what), 0, 0, 1, 0);
        FULL.range("place(9, %d)", (x, what) -> x.place(9, what), 0, 30000, 1, 29970);
    }

    private static void placeOfNothing() {
        DUE.by("What lies on a PLACE: tons (0), lime (1). BAD");
        for (int p = 0; p <= 9; p++) {
            int place = p;
            NEW.range("place(" + p + ", %d)", (x, what) -> x.place(place, what), 0, 0, 1, 0);
        }
    }

    private static void spreadOfNothing() {
        DUE.by("SPREAD: the greatest less the least lime in all that lies on a PLACE");
        NEW.taken("spread()", KilnLine::spread, 0);
        KilnLine x = new KilnLine();
        x.cut(0);
        DUE.is("spread(), PLACE 0 CUT", x.spread(), 0);
        x.stroke(10, 7, 0);
        DUE.is("spread(), all alike", x.spread(), 0);
    }

    private static void spreadOfOnePlaceAndOfNone() {
        DUE.by("NONE: all PLACES are CUT");
        for (int left = 0; left <= 9; left++) {
            KilnLine x = laid(3);
            for (int p = 0; p <= 9; p++) {
                if (p != left) {
                    x.cut(p);
                }
            }
            DUE.is("spread() of PLACE " + left, x.spread(), 0);
            x.cut(left);
            DUE.is("spread() of none", x.spread(), KilnLine.NONE);
            x.stroke(10, 0, 1);
            DUE.is("spread() of none, another STROKE", x.spread(), KilnLine.NONE);
        }
        DUE.is("spread() of none, no STROKE", cutUpTo(new KilnLine(), 9).spread(), KilnLine.NONE);
        ALL_CUT.unchanged("spread()", KilnLine::spread, KilnLine.NONE);
    }

    private static void spreadLeavesOutCutPlaces() {
        DUE.by("over PLACES that are not CUT");
        for (int last = 0; last <= 8; last++) {
            DUE.is("spread() of those above " + last, cutUpTo(laid(1), last).spread(), 999 - 111 * (last + 1));
        }
        KilnLine x = laid(1);
        for (int p = 9; p >= 1; p--) {
            x.cut(p);
            DUE.is("spread() of those below " + p, x.spread(), 111 * (p - 1));
        }
    }

    private static void spreadOfAFullHeap() {
        DUE.by("the greatest less the least lime");
        FULL.taken("spread()", KilnLine::spread, 29970);
        KilnLine x = new KilnLine();
        for (int i = 0; i < 30; i++) {
            x.stroke(1000, 1, 111);
        }
        DUE.is("spread() of STROKES from both ends", x.spread(), 0);
        DUE.is("place(0, 1)", x.place(0, 1), 15 * 1001);
    }

    private static void spreadOfAStrokeIsOverAllPlaces() {
        DUE.by("of a STROKE: as it was laid, over all PLACES");
        int[][] strokes = {{1, 1, 0, 0}, {9, 0, 1, 9}, {9, 9, -1, 9}, {1000, 0, 111, 999}, {1000, 1000, -111, 999}};
        for (int[] s : strokes) {
            for (KilnLine x : new KilnLine[] {new KilnLine(), laid(1), cutUpTo(laid(1), 9)}) {
                int number = x.stroke(s[0], s[1], s[2]);
                DUE.is("strokeSpread of d " + s[2], x.strokeSpread(number - 1), s[3]);
                cutUpTo(x, 9);
                DUE.is("strokeSpread, all CUT", x.strokeSpread(number - 1), s[3]);
            }
        }
    }

    private static void strokeSpreadIsOfStrokesThatThereAre() {
        DUE.by("SPREAD of STROKE i. BAD");
        BUSY.range("strokeSpread(%d)", KilnLine::strokeSpread, 0, 45, 1, 45);
        ONE_STROKE.range("strokeSpread(%d)", KilnLine::strokeSpread, 0, 999, 0, 999);
        FULL.range("strokeSpread(%d)", KilnLine::strokeSpread, 0, 999, 29, 999);
        NEW.refused("strokeSpread(0)", x -> x.strokeSpread(0), KilnLine.BAD);
        KilnLine x = laid(30);
        x.clear();
        DUE.is("strokeSpread(0) behind clear()", x.strokeSpread(0), KilnLine.BAD);
        x.stroke(9, 0, 1);
        DUE.is("strokeSpread(0)", x.strokeSpread(0), 9);
        DUE.is("strokeSpread(1)", x.strokeSpread(1), KilnLine.BAD);
    }

    private static void clearOfNothing() {
        DUE.by("how many STROKES it had");
        KilnLine x = NEW.taken("clear()", KilnLine::clear, 0);
        DUE.is("digest()", x.digest(), new KilnLine().digest());
        KilnLine y = BUSY.taken("clear()", KilnLine::clear, 2);
        DUE.is("clear() again", y.clear(), 0);
        DUE.is("asked() stays", y.asked(), 8);
    }

    private static void clearOfAFullHeap() {
        DUE.by("THE HEAP has nothing");
        KilnLine x = FULL.taken("clear()", KilnLine::clear, 30);
        DUE.is("digest()", x.digest(), new KilnLine().digest());
        DUE.is("spread()", x.spread(), 0);
        for (int i = 1; i <= 30; i++) {
            DUE.is("stroke " + i, x.stroke(9, 0, 1), i);
            DUE.is("place(9, 1)", x.place(9, 1), (i + 1) / 2 * 9);
        }
        DUE.is("stroke 31", x.stroke(9, 0, 1), KilnLine.FULL);
    }

    /** Behind one STROKE, too, it is the 1st one again: it comes from PLACE 0. */
    private static void clearUndoesEachCut() {
        DUE.by("no PLACE is CUT");
        KilnLine x = cutUpTo(laid(1), 9);
        DUE.is("clear()", x.clear(), 1);
        DUE.is("digest()", x.digest(), new KilnLine().digest());
        DUE.is("stroke(9, 0, 1)", x.stroke(9, 0, 1), 1);
        for (int p = 0; p <= 9; p++) {
            DUE.is("place(" + p + ", 1)", x.place(p, 1), p);
            DUE.is("cut(" + p + ")", x.cut(p), 9);
        }
    }
}
