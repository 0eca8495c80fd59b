/** Promises 28 to 33: each sentence on the plan that names a boundary. */
public final class PlanBoundsTest {
    private static final Due DUE = new Due("PlanBoundsTest");
    private static final Bounds NEW = new Bounds(DUE, KilnLine::new);
    private static final Bounds BUSY = new Bounds(DUE, Busy::line);
    private static final int MAX = Integer.MAX_VALUE, MIN = Integer.MIN_VALUE;
    private static final int ALL = (1 << 24) - 1;

    public static void main(String[] args) {
        daysAre0To6();
        rowsAreMissingAtFirst();
        dayLaysARowOfNoughts();
        pricesAre0To1000();
        pricesHaveHours0To23();
        pricesOfAMissingRow();
        tornRowsAreMissing();
        copyTakesBothDays();
        copyOfFewerThanNone();
        copyOfAMissingRow();
        copyFromPlacesThatThereAre();
        copyToPlacesThatThereAre();
        copyOfNone();
        copyThatWouldWrapAround();
        copyRefusesInItsOrder();
        copyIsAsIfTakenAhead();
        copyLeavesItsNeighbours();
        needsHaveHours0To23();
        needsAre0To10000();
        needsAre0AtFirst();
        ratesAre1To1000();
        planOfAMissingRow();
        planWithoutNeeds();
        planOfJustEnough();
        planOfTheLastTon();
        planOfTheGreatestNeed();
        planOfTheGreatestPrice();
        planHasTheFewestHours();
        planHasTheLeastBits();
        planOfNone();
        DUE.end();
    }

    private static KilnLine withDay(int d, int price) {
        KilnLine x = new KilnLine();
        x.day(d);
        for (int h = 0; h < 24; h++) {
            x.price(d, h, price);
        }
        return x;
    }

    private static void daysAre0To6() {
        DUE.by("one for each DAY 0 .. 6");
        NEW.range("day(%d)", KilnLine::day, 0, 0, 6, 0);
        BUSY.range("day(%d)", KilnLine::day, 0, 1, 6, 1);
        BUSY.range("price(%d, 0, 5)", (x, d) -> x.price(d, 0, 5), 0, 9, 6, 1000);
        BUSY.range("tear(%d)", KilnLine::tear, 0, 1, 6, 1);
        BUSY.range("copy(%d, 0, 6, 0, 1)", (x, d) -> x.copy(d, 0, 6, 0, 1), 0, 1, 6, 1);
        BUSY.range("copy(0, 0, %d, 0, 1)", (x, e) -> x.copy(0, 0, e, 0, 1), 0, 1, 6, 1);
        BUSY.range("plan(%d, 10)", (x, d) -> x.plan(d, 10), 0, 30, 6, 30);
    }

    private static void rowsAreMissingAtFirst() {
        DUE.by("ROWS may be missing (at first)");
        for (int d = 0; d <= 6; d++) {
            int day = d;
            NEW.found("tear(" + d + ")", x -> x.tear(day), Bounds.NOTHING);
            NEW.found("price(" + d + ", 0, 0)", x -> x.price(day, 0, 0), Bounds.NOTHING);
            NEW.found("plan(" + d + ", 1)", x -> x.plan(day, 1), Bounds.NOTHING);
            NEW.found("copy(" + d + ", 0, d, 0, 0)", x -> x.copy(day, 0, day, 0, 0), Bounds.NOTHING);
        }
        NEW.taken("count(3)", x -> x.count(3), 0);
    }

    private static void dayLaysARowOfNoughts() {
        DUE.by("The ROW of a DAY is there, all prices 0: 1 if it was there, else 0");
        for (int d : new int[] {0, 6}) {
            KilnLine x = withDay(d, 1000);
            DUE.is("count(3)", x.count(3), 1);
            DUE.is("day(" + d + ") again", x.day(d), 1);
            DUE.is("count(3)", x.count(3), 1);
            for (int h = 0; h < 24; h++) {
                DUE.is("price(d, " + h + ", 1000)", x.price(d, h, 1000), 0);
            }
            x.tear(d);
            DUE.is("day(" + d + ") behind tear()", x.day(d), 0);
            for (int h = 0; h < 24; h++) {
                DUE.is("price(d, " + h + ", 0)", x.price(d, h, 0), 0);
            }
        }
    }

    private static void pricesAre0To1000() {
        DUE.by("prices in a ROW (0 .. 1000 each)");
        BUSY.range("price(0, 0, %d)", (x, v) -> x.price(0, 0, v), 0, 9, 1000, 9);
        BUSY.range("price(6, 23, %d)", (x, v) -> x.price(6, 23, v), 0, 7, 1000, 7);
        for (int v : new int[] {0, 1000}) {
            DUE.is("price(0, 0, 1)", BUSY.taken("price", x -> x.price(0, 0, v), 9).price(0, 0, 1), v);
        }
        // BAD is ahead of NOTHING and of BEYOND.
        NEW.refused("price(0, 0, -1)", x -> x.price(0, 0, -1), KilnLine.BAD);
        NEW.refused("price(0, 0, 1001)", x -> x.price(0, 0, 1001), KilnLine.BAD);
        BUSY.refused("price(0, 24, 1001)", x -> x.price(0, 24, 1001), KilnLine.BAD);
        BUSY.refused("price(7, 24, 0)", x -> x.price(7, 24, 0), KilnLine.BAD);
    }

    private static void pricesHaveHours0To23() {
        DUE.by("BEYOND: the HOUR");
        BUSY.places("price(0, %d, 5)", (x, h) -> x.price(0, h, 5), 0, 9, 23, 1);
        BUSY.places("price(6, %d, 5)", (x, h) -> x.price(6, h, 5), 0, 1000, 23, 7);
    }

    private static void pricesOfAMissingRow() {
        DUE.by("NOTHING; BEYOND: the HOUR");
        for (int h : new int[] {0, 23, -1, 24, MIN, MAX}) {
            BUSY.found("price(3, " + h + ", 5)", x -> x.price(3, h, 5), Bounds.NOTHING);
        }
    }

    private static void tornRowsAreMissing() {
        DUE.by("The ROW of a DAY is missing: 1. BAD; NOTHING");
        BUSY.found("tear(1)", x -> x.tear(1), Bounds.NOTHING);
        BUSY.found("tear(5)", x -> x.tear(5), Bounds.NOTHING);
        KilnLine x = BUSY.taken("tear(6)", y -> y.tear(6), 1);
        DUE.is("count(3)", x.count(3), 1);
        DUE.is("tear(6) again", x.tear(6), KilnLine.FINDING);
        DUE.is("finding()", x.finding(), Bounds.NOTHING);
        DUE.is("count(3)", x.count(3), 1);
        DUE.is("price(0, 0, 0): not the others", x.price(0, 0, 0), 9);
        DUE.is("tear(0)", x.tear(0), 1);
        DUE.is("count(3)", x.count(3), 0);
    }

    private static void copyTakesBothDays() {
        DUE.by("BAD: DAYS");
        BUSY.refused("copy(-1, 0, 0, 0, 1)", x -> x.copy(-1, 0, 0, 0, 1), KilnLine.BAD);
        BUSY.refused("copy(0, 0, 7, 0, 1)", x -> x.copy(0, 0, 7, 0, 1), KilnLine.BAD);
        BUSY.refused("copy(7, 99, -1, 99, -1)", x -> x.copy(7, 99, -1, 99, -1), KilnLine.BAD);
        BUSY.refused("copy(3, 99, 7, 99, -1)", x -> x.copy(3, 99, 7, 99, -1), KilnLine.BAD);
    }

    private static void copyOfFewerThanNone() {
        DUE.by("SIZE: n below 0");
        BUSY.taken("copy(0, 0, 6, 0, 0)", x -> x.copy(0, 0, 6, 0, 0), 1);
        BUSY.found("copy(0, 0, 6, 0, -1)", x -> x.copy(0, 0, 6, 0, -1), Bounds.SIZE);
        BUSY.found("copy(0, 5, 6, 5, -2^31)", x -> x.copy(0, 5, 6, 5, MIN), Bounds.SIZE);
        BUSY.found("copy(0, 24, 6, 24, -24)", x -> x.copy(0, 24, 6, 24, -24), Bounds.SIZE);
        NEW.found("copy(0, 0, 0, 0, -1)", x -> x.copy(0, 0, 0, 0, -1), Bounds.SIZE);
    }

    private static void copyOfAMissingRow() {
        DUE.by("NOTHING: either");
        for (int n : new int[] {0, 1, 24}) {
            BUSY.found("copy(3, 0, 0, 0, " + n + ")", x -> x.copy(3, 0, 0, 0, n), Bounds.NOTHING);
            BUSY.found("copy(0, 0, 3, 0, " + n + ")", x -> x.copy(0, 0, 3, 0, n), Bounds.NOTHING);
            BUSY.found("copy(3, 0, 4, 0, " + n + ")", x -> x.copy(3, 0, 4, 0, n), Bounds.NOTHING);
        }
    }

    private static void copyFromPlacesThatThereAre() {
        DUE.by("BEYOND: not so many there");
        BUSY.places("copy(0, %d, 6, 0, 1)", (x, i) -> x.copy(0, i, 6, 0, 1), 0, 1, 23, 1);
        BUSY.places("copy(0, %d, 6, 0, 20)", (x, i) -> x.copy(0, i, 6, 0, 20), 0, 1, 4, 1);
        BUSY.places("copy(0, %d, 6, 0, 24)", (x, i) -> x.copy(0, i, 6, 0, 24), 0, 1, 0, 1);
        BUSY.places("copy(0, %d, 0, 0, 1)", (x, i) -> x.copy(0, i, 0, 0, 1), 0, 1, 23, 1);
        for (int n : new int[] {0, 24}) {
            BUSY.taken("copy(0, 0, 6, 0, " + n + ")", x -> x.copy(0, 0, 6, 0, n), 1);
        }
        BUSY.found("copy(0, 0, 6, 0, 25)", x -> x.copy(0, 0, 6, 0, 25), Bounds.BEYOND);
        BUSY.found("copy(0, 0, 6, 0, 2^31 - 1)", x -> x.copy(0, 0, 6, 0, MAX), Bounds.BEYOND);
        BUSY.taken("copy(0, 20, 6, 0, 4)", x -> x.copy(0, 20, 6, 0, 4), 1);
        BUSY.found("copy(0, 20, 6, 0, 5)", x -> x.copy(0, 20, 6, 0, 5), Bounds.BEYOND);
    }

    private static void copyToPlacesThatThereAre() {
        DUE.by("BEYOND: not so many there");
        BUSY.places("copy(0, 0, 6, %d, 1)", (x, j) -> x.copy(0, 0, 6, j, 1), 0, 1, 23, 1);
        BUSY.places("copy(0, 0, 6, %d, 20)", (x, j) -> x.copy(0, 0, 6, j, 20), 0, 1, 4, 1);
        BUSY.places("copy(0, 0, 6, %d, 24)", (x, j) -> x.copy(0, 0, 6, j, 24), 0, 1, 0, 1);
        BUSY.places("copy(0, 0, 0, %d, 1)", (x, j) -> x.copy(0, 0, 0, j, 1), 0, 1, 23, 1);
        BUSY.taken("copy(0, 0, 6, 20, 4)", x -> x.copy(0, 0, 6, 20, 4), 1);
        BUSY.found("copy(0, 0, 6, 20, 5)", x -> x.copy(0, 0, 6, 20, 5), Bounds.BEYOND);
    }

    /** Of none, HOUR 24 has as many as are asked for; there is no HOUR 25, nor one below 0. */
    private static void copyOfNone() {
        DUE.by("n prices of a DAY, from one on .. BEYOND: not so many there");
        BUSY.places("copy(0, %d, 6, 0, 0)", (x, i) -> x.copy(0, i, 6, 0, 0), 0, 1, 24, 1);
        BUSY.places("copy(0, 0, 6, %d, 0)", (x, j) -> x.copy(0, 0, 6, j, 0), 0, 1, 24, 1);
        BUSY.unchanged("copy(0, 5, 6, 9, 0)", x -> x.copy(0, 5, 6, 9, 0), 1);
        BUSY.unchanged("copy(0, 24, 6, 24, 0)", x -> x.copy(0, 24, 6, 24, 0), 1);
    }

    /** The sum of an HOUR and n is below 24, as an int. */
    private static void copyThatWouldWrapAround() {
        DUE.by("BEYOND: not so many there");
        int[][] hours = {{1, MAX}, {23, MAX}, {24, MAX}, {MAX, 1}, {MAX, 24}, {MAX, MAX}, {MAX - 5, 10}, {MIN, MAX}, {-5, 10}, {-24, 24}};
        for (int[] v : hours) {
            BUSY.found("copy(0, " + v[0] + ", 6, 0, " + v[1] + ")", x -> x.copy(0, v[0], 6, 0, v[1]), Bounds.BEYOND);
            BUSY.found("copy(0, 0, 6, " + v[0] + ", " + v[1] + ")", x -> x.copy(0, 0, 6, v[0], v[1]), Bounds.BEYOND);
            BUSY.found("copy(0, " + v[0] + ", 0, same, " + v[1] + ")", x -> x.copy(0, v[0], 0, v[0], v[1]), Bounds.BEYOND);
        }
    }

    private static void copyRefusesInItsOrder() {
        DUE.by("BAD: DAYS; SIZE: n below 0; NOTHING: either; BEYOND: not so many there");
        BUSY.refused("BAD ahead of SIZE", x -> x.copy(0, 0, 7, 0, -1), KilnLine.BAD);
        BUSY.refused("BAD ahead of NOTHING", x -> x.copy(3, 0, 7, 0, 1), KilnLine.BAD);
        BUSY.refused("BAD ahead of BEYOND", x -> x.copy(-1, 24, 0, 0, 1), KilnLine.BAD);
        BUSY.found("SIZE ahead of NOTHING", x -> x.copy(3, 0, 0, 0, -1), Bounds.SIZE);
        BUSY.found("SIZE ahead of NOTHING", x -> x.copy(0, 0, 3, 0, -1), Bounds.SIZE);
        BUSY.found("SIZE ahead of BEYOND", x -> x.copy(0, 25, 6, -1, -1), Bounds.SIZE);
        BUSY.found("NOTHING ahead of BEYOND", x -> x.copy(3, 25, 0, 0, 1), Bounds.NOTHING);
        BUSY.found("NOTHING ahead of BEYOND", x -> x.copy(0, 25, 3, 0, 1), Bounds.NOTHING);
        BUSY.found("NOTHING ahead of BEYOND", x -> x.copy(0, 0, 3, -1, 1), Bounds.NOTHING);
        BUSY.found("NOTHING ahead of BEYOND", x -> x.copy(3, 0, 0, 0, 25), Bounds.NOTHING);
    }

    private static KilnLine withRisingPrices() {
        KilnLine x = new KilnLine();
        for (int d : new int[] {0, 1}) {
            x.day(d);
            for (int h = 0; h < 24; h++) {
                x.price(d, h, 100 * d + h + 1);
            }
        }
        return x;
    }

    private static void copyIsAsIfTakenAhead() {
        DUE.by("come to those of another one (perhaps itself) from one on, as if taken ahead: 1");
        int[][] runs = {{0, 1, 23}, {1, 0, 23}, {0, 12, 12}, {12, 0, 12}, {0, 0, 24}, {3, 5, 10}, {5, 3, 10}, {23, 0, 1}, {0, 23, 1}};
        for (int[] r : runs) {
            KilnLine x = withRisingPrices();
            DUE.is("copy(0, " + r[0] + ", 0, " + r[1] + ", " + r[2] + ")", x.copy(0, r[0], 0, r[1], r[2]), 1);
            for (int h = 0; h < 24; h++) {
                boolean copied = h >= r[1] && h < r[1] + r[2];
                DUE.is("price(0, " + h + ", 0)", x.price(0, h, 0), copied ? h - r[1] + r[0] + 1 : h + 1);
            }
        }
    }

    private static void copyLeavesItsNeighbours() {
        DUE.by("n prices of a DAY, from one on, come to those of another one from one on");
        int[][] runs = {{0, 0, 24}, {0, 0, 1}, {23, 23, 1}, {5, 9, 3}, {0, 20, 4}, {20, 0, 4}};
        for (int[] r : runs) {
            KilnLine x = withRisingPrices();
            DUE.is("copy(0, " + r[0] + ", 1, " + r[1] + ", " + r[2] + ")", x.copy(0, r[0], 1, r[1], r[2]), 1);
            for (int h = 0; h < 24; h++) {
                boolean copied = h >= r[1] && h < r[1] + r[2];
                DUE.is("price(1, " + h + ", 0)", x.price(1, h, 0), copied ? h - r[1] + r[0] + 1 : 101 + h);
                DUE.is("price(0, " + h + ", 0)", x.price(0, h, 0), h + 1);
            }
        }
    }

    private static void needsHaveHours0To23() {
        DUE.by("By the end of HOUR h so many tons are NEEDED: what it was. BAD");
        BUSY.range("need(%d, 5)", (x, h) -> x.need(h, 5), 0, 0, 23, 40);
        BUSY.taken("need(2, 5)", x -> x.need(2, 5), 20);
    }

    private static void needsAre0To10000() {
        DUE.by("so many tons (0 .. 10000) are NEEDED");
        BUSY.range("need(2, %d)", (x, tons) -> x.need(2, tons), 0, 20, 10000, 20);
        for (int tons : new int[] {0, 10000}) {
            DUE.is("need(2, 1)", BUSY.taken("need", x -> x.need(2, tons), 20).need(2, 1), tons);
        }
    }

    private static void needsAre0AtFirst() {
        DUE.by("at least so many tons in all (0 at first)");
        for (int h = 0; h < 24; h++) {
            int hour = h;
            NEW.taken("need(" + h + ", 1)", x -> x.need(hour, 1), 0);
        }
    }

    private static void ratesAre1To1000() {
        DUE.by("r tons an HOUR (1 .. 1000)");
        BUSY.range("plan(0, %d)", (x, r) -> x.plan(0, r), 1, KilnLine.NONE, 1000, 2);
        BUSY.taken("plan(0, 7): 20 of 21 tons", x -> x.plan(0, 7), 63);
        // BAD is ahead of NOTHING.
        NEW.refused("plan(0, 0)", x -> x.plan(0, 0), KilnLine.BAD);
        NEW.refused("plan(0, 1001)", x -> x.plan(0, 1001), KilnLine.BAD);
    }

    private static void planOfAMissingRow() {
        DUE.by("BAD; NOTHING; NONE: no PLAN meets all NEEDS");
        BUSY.found("plan(3, 10)", x -> x.plan(3, 10), Bounds.NOTHING);
        BUSY.found("plan(3, 1): ahead of NONE", x -> x.plan(3, 1), Bounds.NOTHING);
        NEW.found("plan(6, 1000)", x -> x.plan(6, 1000), Bounds.NOTHING);
    }

    private static void planWithoutNeeds() {
        DUE.by("its HOURS (bits); its price by asked()");
        for (int price : new int[] {0, 1000}) {
            KilnLine x = withDay(6, price);
            x.stroke(9, 9, 0);
            x.cut(0);
            DUE.is("asked() ahead of it", x.asked(), 9);
            DUE.is("plan(6, 1): no HOUR", x.plan(6, 1), 0);
            DUE.is("asked()", x.asked(), 0);
        }
    }

    private static void planOfJustEnough() {
        DUE.by("by the end of HOUR h at least so many tons in all");
        for (int rate : new int[] {1, 7, 416}) {
            for (int h = 0; h < 24; h++) {
                KilnLine x = withDay(2, 3);
                x.need(h, (h + 1) * rate);
                DUE.is("plan, HOUR " + h, x.plan(2, rate), (1 << h + 1) - 1);
                DUE.is("asked()", x.asked(), 3 * (h + 1));
                x.need(h, (h + 1) * rate + 1);
                DUE.is("plan, HOUR " + h + ", a ton more", x.plan(2, rate), KilnLine.NONE);
                DUE.is("asked() stays", x.asked(), 3 * (h + 1));
            }
        }
    }

    private static void planOfTheLastTon() {
        DUE.by("at least so many tons in all");
        KilnLine x = withDay(0, 1);
        int[][] needs = {{1, 1}, {9, 1}, {10, 1}, {11, 3}, {20, 3}, {21, 7}};
        for (int[] n : needs) {
            x.need(23, n[0]);
            DUE.is("plan(0, 10), " + n[0] + " tons", x.plan(0, 10), n[1]);
        }
        // A NEED of HOUR 5 is met in HOUR 5 still, and not in HOUR 6.
        x.need(23, 0);
        x.need(5, 1);
        x.price(0, 5, 0);
        x.price(0, 6, 0);
        DUE.is("plan(0, 10)", x.plan(0, 10), 1 << 5);
        x.need(5, 0);
        x.need(6, 11);
        DUE.is("plan(0, 10)", x.plan(0, 10), 3 << 5);
        // The tons of all HOURS count, those ahead of an earlier NEED too.
        x.need(0, 10);
        x.need(6, 10);
        DUE.is("plan(0, 10)", x.plan(0, 10), 1);
        DUE.is("asked()", x.asked(), 1);
    }

    private static void planOfTheGreatestNeed() {
        DUE.by("so many tons (0 .. 10000) are NEEDED");
        KilnLine x = withDay(0, 1000);
        x.need(23, 10000);
        DUE.is("plan(0, 417): 10008 tons", x.plan(0, 417), ALL);
        DUE.is("plan(0, 416): 9984 tons", x.plan(0, 416), KilnLine.NONE);
        DUE.is("plan(0, 1000)", x.plan(0, 1000), 0x3ff);
        DUE.is("asked()", x.asked(), 10000);
        x.need(9, 10000);
        DUE.is("plan(0, 1000)", x.plan(0, 1000), 0x3ff);
        DUE.is("plan(0, 999)", x.plan(0, 999), KilnLine.NONE);
        x.need(8, 10000);
        DUE.is("plan(0, 1000)", x.plan(0, 1000), KilnLine.NONE);
    }

    private static void planOfTheGreatestPrice() {
        DUE.by("its price by asked()");
        KilnLine x = withDay(6, 1000);
        x.need(23, 24);
        DUE.is("plan(6, 1)", x.plan(6, 1), ALL);
        DUE.is("asked()", x.asked(), 24000);
        x.need(23, 25);
        DUE.is("plan(6, 1)", x.plan(6, 1), KilnLine.NONE);
        DUE.is("asked() stays", x.asked(), 24000);
        // Of all HOURS the last one is the cheapest.
        KilnLine y = withDay(6, 1000);
        y.need(23, 1);
        y.price(6, 23, 999);
        DUE.is("plan(6, 1000)", y.plan(6, 1000), 1 << 23);
        DUE.is("asked()", y.asked(), 999);
    }

    /** Without a price, each HOUR more would cost nothing. */
    private static void planHasTheFewestHours() {
        DUE.by("of these with the fewest HOURS");
        KilnLine x = withDay(0, 0);
        x.need(0, 1);
        x.need(23, 1);
        DUE.is("plan(0, 1)", x.plan(0, 1), 1);
        x.need(0, 0);
        x.need(23, 10);
        DUE.is("plan(0, 5)", x.plan(0, 5), 3);
        DUE.is("plan(0, 4)", x.plan(0, 4), 7);
        // The one HOUR that has a price is left out, those without one are not all taken.
        x.price(0, 0, 1);
        DUE.is("plan(0, 5)", x.plan(0, 5), 6);
        DUE.is("asked()", x.asked(), 0);
    }

    private static void planHasTheLeastBits() {
        DUE.by("then with the least row of bits (bit h for HOUR h)");
        KilnLine x = withDay(0, 0);
        for (int hours = 0; hours <= 24; hours++) {
            x.need(23, hours);
            DUE.is("plan(0, 1) of " + hours, x.plan(0, 1), (int) ((1L << hours) - 1));
        }
        KilnLine y = withDay(0, 5);
        y.price(0, 22, 4);
        y.price(0, 23, 4);
        y.need(23, 1);
        DUE.is("plan(0, 1)", y.plan(0, 1), 1 << 22);
        y.need(23, 3);
        DUE.is("plan(0, 1)", y.plan(0, 1), 3 << 22 | 1);
        // A lesser price is ahead of lesser bits.
        y.price(0, 23, 3);
        y.need(23, 1);
        DUE.is("plan(0, 1)", y.plan(0, 1), 1 << 23);
        DUE.is("asked()", y.asked(), 3);
    }

    private static void planOfNone() {
        DUE.by("NONE: no PLAN meets all NEEDS");
        BUSY.unchanged("plan(0, 1)", x -> x.plan(0, 1), KilnLine.NONE);
        BUSY.unchanged("plan(0, 6): 18 tons of 20", x -> x.plan(0, 6), KilnLine.NONE);
        KilnLine x = BUSY.taken("plan(0, 7)", y -> y.plan(0, 7), 63);
        DUE.is("asked()", x.asked(), 17);
    }
}
