/** Promises 25 to 27: each sentence on silos that names a boundary. */
public final class SiloBoundsTest {
    private static final Due DUE = new Due("SiloBoundsTest");
    private static final Bounds NEW = new Bounds(DUE, KilnLine::new);
    private static final Bounds BUSY = new Bounds(DUE, Busy::line);
    private static final Bounds LARGE = new Bounds(DUE, () -> unburnt(11, 1000));
    private static final Bounds JUST_ENOUGH = new Bounds(DUE, () -> unburnt(10, 1000));

    public static void main(String[] args) {
        silosAre0To2();
        siloTellsOfTwoNumbers();
        siloOfNothing();
        bagsAre1To10000Tons();
        aBagOfAllTons();
        moreTonsThanThereAreIsState();
        badIsAheadOfState();
        aBagOfAWholeLot();
        aBagOfAPartOfALot();
        aBagOfALotAndATon();
        aBagOfManyLots();
        whatIsTakenStaysTold();
        lotsAreThoseOfTheLatestBag();
        lotTellsOfTwoNumbers();
        lotIsNoneAheadOfTheFirstBag();
        badIsAheadOfNone();
        DUE.end();
    }

    /** So many LOTS of so many tons in SILO 0, of STEPS 4 and on. */
    private static KilnLine unburnt(int lots, int tons) {
        KilnLine x = new KilnLine();
        for (int i = 0; i < lots + 4; i++) {
            x.step(i < lots ? tons : 0, 0, 100);
        }
        return x;
    }

    private static void silosAre0To2() {
        DUE.by("SILOS 0 .. 2");
        BUSY.range("silo(%d, 0)", (x, s) -> x.silo(s, 0), 0, 6, 2, 5);
        BUSY.range("silo(%d, 1)", (x, s) -> x.silo(s, 1), 0, 1, 2, 1);
        BUSY.range("bag(%d, 1)", (x, s) -> x.bag(s, 1), 0, 1, 2, 1);
    }

    private static void siloTellsOfTwoNumbers() {
        DUE.by("Tons in a SILO (0), how many LOTS (1). BAD");
        BUSY.range("silo(1, %d)", (x, what) -> x.silo(1, what), 0, 3, 1, 2);
        LARGE.range("silo(0, %d)", (x, what) -> x.silo(0, what), 0, 11000, 1, 11);
    }

    private static void siloOfNothing() {
        DUE.by("Tons in a SILO (0), how many LOTS (1). BAD");
        for (int s = 0; s <= 2; s++) {
            int number = s;
            NEW.range("silo(" + s + ", %d)", (x, what) -> x.silo(number, what), 0, 0, 1, 0);
        }
    }

    private static void bagsAre1To10000Tons() {
        DUE.by("A BAG of n tons (1 .. 10000) of a SILO");
        LARGE.range("bag(0, %d)", (x, n) -> x.bag(0, n), 1, 1, 10000, 10);
        KilnLine x = LARGE.taken("bag(0, 1)", y -> y.bag(0, 1), 1);
        DUE.silo(x, 10999, 11);
        DUE.lots(x, 4, 1);
        DUE.silo(LARGE.taken("bag(0, 10000)", y -> y.bag(0, 10000), 10), 1000, 1);
    }

    private static void aBagOfAllTons() {
        DUE.by("STATE: it has not so many tons");
        KilnLine x = JUST_ENOUGH.taken("bag(0, 10000)", y -> y.bag(0, 10000), 10);
        DUE.silo(x, 0, 0);
        DUE.is("bag(0, 1)", x.bag(0, 1), KilnLine.STATE);
        int[] all = {6, 3, 5};
        int[] lots = {1, 2, 1};
        for (int s = 0; s <= 2; s++) {
            int number = s;
            KilnLine y = BUSY.taken("bag(" + s + ", all)", z -> z.bag(number, all[number]), lots[s]);
            DUE.is("silo(s, 0)", y.silo(s, 0), 0);
            DUE.is("silo(s, 1)", y.silo(s, 1), 0);
        }
    }

    private static void moreTonsThanThereAreIsState() {
        DUE.by("STATE: it has not so many tons");
        for (int s = 0; s <= 2; s++) {
            int number = s;
            int[] all = {6, 3, 5};
            BUSY.refused("bag(" + s + ", one more)", x -> x.bag(number, all[number] + 1), KilnLine.STATE);
            BUSY.refused("bag(" + s + ", 10000)", x -> x.bag(number, 10000), KilnLine.STATE);
            NEW.refused("bag(" + s + ", 1)", x -> x.bag(number, 1), KilnLine.STATE);
        }
        new Bounds(DUE, () -> unburnt(9, 999)).refused("bag(0, 8992)", x -> x.bag(0, 8992), KilnLine.STATE);
    }

    private static void badIsAheadOfState() {
        DUE.by("in this order: BAD -1 .. STATE -4");
        NEW.refused("bag(0, 0)", x -> x.bag(0, 0), KilnLine.BAD);
        NEW.refused("bag(0, 10001)", x -> x.bag(0, 10001), KilnLine.BAD);
        NEW.refused("bag(3, 1)", x -> x.bag(3, 1), KilnLine.BAD);
        NEW.refused("bag(-1, 1)", x -> x.bag(-1, 1), KilnLine.BAD);
        BUSY.refused("bag(0, -2^31)", x -> x.bag(0, Integer.MIN_VALUE), KilnLine.BAD);
    }

    private static void aBagOfAWholeLot() {
        DUE.by("of its LOTS the eldest first, in part if need be");
        KilnLine x = unburnt(3, 7);
        DUE.is("bag(0, 7)", x.bag(0, 7), 1);
        DUE.lots(x, 4, 7);
        DUE.silo(x, 14, 2);
        DUE.is("bag(0, 14)", x.bag(0, 14), 2);
        DUE.lots(x, 5, 7, 6, 7);
        DUE.silo(x, 0, 0);
    }

    private static void aBagOfAPartOfALot() {
        DUE.by("in part if need be");
        KilnLine x = unburnt(2, 7);
        DUE.is("bag(0, 6)", x.bag(0, 6), 1);
        DUE.lots(x, 4, 6);
        DUE.silo(x, 8, 2);
        DUE.is("bag(0, 1): the rest of it", x.bag(0, 1), 1);
        DUE.lots(x, 4, 1);
        DUE.silo(x, 7, 1);
    }

    private static void aBagOfALotAndATon() {
        DUE.by("in part if need be");
        KilnLine x = unburnt(2, 7);
        DUE.is("bag(0, 8)", x.bag(0, 8), 2);
        DUE.lots(x, 4, 7, 5, 1);
        DUE.silo(x, 6, 1);
        DUE.is("bag(0, 6)", x.bag(0, 6), 1);
        DUE.lots(x, 5, 6);
        DUE.silo(x, 0, 0);
    }

    private static void aBagOfManyLots() {
        DUE.by("A BAG of n tons (1 .. 10000) of a SILO: of how many LOTS");
        KilnLine x = unburnt(480, 1);
        DUE.is("bag(0, 480)", x.bag(0, 480), 480);
        DUE.is("lot(0, 0)", x.lot(0, 0), 4);
        DUE.is("lot(479, 0)", x.lot(479, 0), 483);
        DUE.is("lot(479, 1)", x.lot(479, 1), 1);
        DUE.is("lot(480, 0)", x.lot(480, 0), KilnLine.NONE);
        DUE.silo(x, 0, 0);
    }

    private static void whatIsTakenStaysTold() {
        DUE.by("what is taken of each LOT stays told");
        KilnLine x = Busy.line();
        DUE.lots(x, 4, 5, 5, 1);
        x.bag(0, 7);
        x.bag(0, 0);
        x.bag(3, 1);
        x.step(5, 0, 100);
        x.step(5, 0, 100);
        x.start();
        x.clear();
        DUE.lots(x, 4, 5, 5, 1);
    }

    private static void lotsAreThoseOfTheLatestBag() {
        DUE.by("Of LOT i of the latest BAG");
        KilnLine x = Busy.line();
        DUE.is("bag(1, 3)", x.bag(1, 3), 2);
        DUE.lots(x, 9, 2, 10, 1);
        DUE.is("bag(2, 1)", x.bag(2, 1), 1);
        DUE.lots(x, 8, 1);
        DUE.is("bag(0, 1)", x.bag(0, 1), 1);
        DUE.lots(x, 5, 1);
    }

    private static void lotTellsOfTwoNumbers() {
        DUE.by("0 its STEP, 1 the tons taken. NONE: none such. BAD: what");
        BUSY.range("lot(0, %d)", (x, what) -> x.lot(0, what), 0, 4, 1, 5);
        BUSY.range("lot(1, %d)", (x, what) -> x.lot(1, what), 0, 5, 1, 1);
        for (int i : new int[] {-1, 2, 500, Integer.MIN_VALUE, Integer.MAX_VALUE}) {
            BUSY.unchanged("lot(" + i + ", 0)", x -> x.lot(i, 0), KilnLine.NONE);
            BUSY.unchanged("lot(" + i + ", 1)", x -> x.lot(i, 1), KilnLine.NONE);
        }
    }

    private static void lotIsNoneAheadOfTheFirstBag() {
        DUE.by("NONE: none such");
        for (int i : new int[] {-1, 0, 1}) {
            NEW.unchanged("lot(" + i + ", 0)", x -> x.lot(i, 0), KilnLine.NONE);
            LARGE.unchanged("lot(" + i + ", 1)", x -> x.lot(i, 1), KilnLine.NONE);
        }
        KilnLine x = unburnt(1, 5);
        x.bag(0, 6);
        DUE.is("lot(0, 0) behind a refused one", x.lot(0, 0), KilnLine.NONE);
    }

    private static void badIsAheadOfNone() {
        DUE.by("NONE: none such. BAD: what");
        for (int i : new int[] {-1, 0, 2}) {
            NEW.range("lot(" + i + ", %d)", (x, what) -> x.lot(i, what), 0, KilnLine.NONE, 1, KilnLine.NONE);
        }
    }
}
