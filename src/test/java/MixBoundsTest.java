/** Promises 8 to 17: each sentence on the mix that names a boundary. */
public final class MixBoundsTest {
    private static final Due DUE = new Due("MixBoundsTest");
    private static final Bounds NEW = new Bounds(DUE, KilnLine::new);
    private static final Bounds BUSY = new Bounds(DUE, Busy::line);
    private static final Bounds ALL_HOURS = new Bounds(DUE, () -> afterHours(200));
    private static final int MAX = Integer.MAX_VALUE, MIN = Integer.MIN_VALUE;

    public static void main(String[] args) {
        stocksAre0To3();
        partsAre0To1000Each();
        partsAre1000Together();
        oreIsWhatLacks();
        partsThatWouldWrapAroundAreBad();
        sharesAre0To1000Each();
        sharesAre1000Together();
        theLastShareIsWhatLacks();
        sharesThatWouldWrapAroundAreBad();
        partsAndSharesAre250AtFirst();
        mixHasFourParts();
        mixIsFrom0ToAMillion();
        numberIsNoughtOnlyIfTheSumIs0();
        stocksWithoutSharesDoNotCount();
        numberIsInLowestTerms();
        aimIs1To1000Each();
        aimIs3By1AtFirst();
        belowAtAndAboveTheAim();
        theAimDoesNotWrapAround();
        delayIs0To5();
        aSampleComesDelayHoursLater();
        delayIsAsItIsWhenTheSampleIsTaken();
        aLostSampleNeverComes();
        theYoungestIsRead();
        gainIs0To100();
        stock0GetsFewerIfStock1HasNotSoMany();
        stock1GetsFewerIfStock0HasNotSoMany();
        withNoughtNothing();
        hoursAre200AtMost();
        readIsOfTheLatestHour();
        passedLeavesOutWhatIsLostOrToCome();
        passedOfAllHours();
        DUE.end();
    }

    private static KilnLine afterHours(int hours) {
        KilnLine x = new KilnLine();
        for (int h = 0; h < hours; h++) {
            x.hour(false);
        }
        return x;
    }

    private static KilnLine stockedAlike(int lime, int sand, int clay) {
        KilnLine x = new KilnLine();
        for (int s = 0; s <= 3; s++) {
            x.stock(s, lime, sand, clay);
        }
        return x;
    }

    private static void stocksAre0To3() {
        DUE.by("STOCKS 0 .. 3");
        BUSY.range("stock(%d, 1, 2, 3)", (x, s) -> x.stock(s, 1, 2, 3), 0, 1, 3, 1);
        BUSY.range("shareOf(%d)", KilnLine::shareOf, 0, 400, 3, 100);
        for (int s = 0; s <= 3; s++) {
            KilnLine x = stockedAlike(1000, 0, 0);
            x.stock(s, 0, 1000, 0);
            DUE.is("mix(1), STOCK " + s, x.mix(1), 250000);
            x.share(s == 0 ? 1000 : 0, s == 1 ? 1000 : 0, s == 2 ? 1000 : 0);
            DUE.is("mix(1), STOCK " + s + " alone", x.mix(1), 1000000);
        }
    }

    private static void partsAre0To1000Each() {
        DUE.by("parts of lime, sand, clay, ore (0 .. 1000 each");
        BUSY.range("stock(2, %d, 0, 0)", (x, v) -> x.stock(2, v, 0, 0), 0, 1, 1000, 1);
        BUSY.range("stock(2, 0, %d, 0)", (x, v) -> x.stock(2, 0, v, 0), 0, 1, 1000, 1);
        BUSY.range("stock(2, 0, 0, %d)", (x, v) -> x.stock(2, 0, 0, v), 0, 1, 1000, 1);
        // 1000 together, but one is below 0
        BUSY.refused("stock(2, -1, 500, 501)", x -> x.stock(2, -1, 500, 501), KilnLine.BAD);
        BUSY.refused("stock(2, 500, -1, 501)", x -> x.stock(2, 500, -1, 501), KilnLine.BAD);
        BUSY.refused("stock(2, 500, 501, -1)", x -> x.stock(2, 500, 501, -1), KilnLine.BAD);
        BUSY.refused("stock(2, 1001, -1, 0)", x -> x.stock(2, 1001, -1, 0), KilnLine.BAD);
    }

    private static void partsAre1000Together() {
        DUE.by("BAD: also more than 1000 together");
        BUSY.range("stock(2, %d, 300, 200)", (x, v) -> x.stock(2, v, 300, 200), 0, 1, 500, 1);
        BUSY.range("stock(2, 300, %d, 200)", (x, v) -> x.stock(2, 300, v, 200), 0, 1, 500, 1);
        BUSY.range("stock(2, 300, 200, %d)", (x, v) -> x.stock(2, 300, 200, v), 0, 1, 500, 1);
        BUSY.range("stock(2, 1000, %d, 0)", (x, v) -> x.stock(2, 1000, v, 0), 0, 1, 0, 1);
        BUSY.refused("stock(2, 1000, 1000, 1000)", x -> x.stock(2, 1000, 1000, 1000), KilnLine.BAD);
    }

    private static void oreIsWhatLacks() {
        DUE.by("ore: what lacks to 1000");
        int[][] stocks = {{0, 0, 0, 1000}, {1000, 0, 0, 0}, {0, 1000, 0, 0}, {0, 0, 1000, 0}, {333, 333, 333, 1}, {1, 0, 0, 999}};
        for (int[] s : stocks) {
            KilnLine x = stockedAlike(s[0], s[1], s[2]);
            for (int k = 0; k <= 3; k++) {
                DUE.is("mix(" + k + ")", x.mix(k), 1000 * s[k]);
            }
        }
    }

    private static void partsThatWouldWrapAroundAreBad() {
        DUE.by("BAD: also more than 1000 together");
        for (int[] v : wrapping()) {
            String call = "stock(0, " + v[0] + ", " + v[1] + ", " + v[2] + ")";
            BUSY.refused(call, x -> x.stock(0, v[0], v[1], v[2]), KilnLine.BAD);
        }
    }

    /** Their sum is within 0 .. 1000, as an int. */
    private static int[][] wrapping() {
        return new int[][] {
            {MAX, MAX, 2}, {2, MAX, MAX}, {MAX, 2, MAX}, {MIN, MIN, 500}, {500, MIN, MIN}, {MIN, MAX, 1},
            {1 << 30, 1 << 30, MIN}, {MAX, MIN, 1000}, {1, MAX, MIN},
        };
    }

    private static void sharesAre0To1000Each() {
        DUE.by("SHARES of the four: 0 .. 1000");
        BUSY.range("share(%d, 0, 0)", (x, v) -> x.share(v, 0, 0), 0, 1, 1000, 1);
        BUSY.range("share(0, %d, 0)", (x, v) -> x.share(0, v, 0), 0, 1, 1000, 1);
        BUSY.range("share(0, 0, %d)", (x, v) -> x.share(0, 0, v), 0, 1, 1000, 1);
        BUSY.refused("share(-1, 500, 501)", x -> x.share(-1, 500, 501), KilnLine.BAD);
        BUSY.refused("share(500, -1, 501)", x -> x.share(500, -1, 501), KilnLine.BAD);
        BUSY.refused("share(500, 501, -1)", x -> x.share(500, 501, -1), KilnLine.BAD);
        BUSY.refused("share(1001, -1, 0)", x -> x.share(1001, -1, 0), KilnLine.BAD);
    }

    private static void sharesAre1000Together() {
        DUE.by("SHARES of STOCKS 0, 1, 2: BAD, as stock()");
        BUSY.range("share(%d, 300, 200)", (x, v) -> x.share(v, 300, 200), 0, 1, 500, 1);
        BUSY.range("share(300, %d, 200)", (x, v) -> x.share(300, v, 200), 0, 1, 500, 1);
        BUSY.range("share(300, 200, %d)", (x, v) -> x.share(300, 200, v), 0, 1, 500, 1);
        BUSY.range("share(0, 1000, %d)", (x, v) -> x.share(0, 1000, v), 0, 1, 0, 1);
        BUSY.refused("share(1000, 1000, 1000)", x -> x.share(1000, 1000, 1000), KilnLine.BAD);
    }

    private static void theLastShareIsWhatLacks() {
        DUE.by("(3: what lacks to 1000)");
        int[][] shares = {{0, 0, 0, 1000}, {1000, 0, 0, 0}, {0, 1000, 0, 0}, {0, 0, 1000, 0}, {333, 333, 333, 1}, {1, 0, 0, 999}};
        for (int[] v : shares) {
            KilnLine x = BUSY.taken("share", y -> y.share(v[0], v[1], v[2]), 1);
            for (int s = 0; s <= 3; s++) {
                DUE.is("shareOf(" + s + ")", x.shareOf(s), v[s]);
            }
        }
    }

    private static void sharesThatWouldWrapAroundAreBad() {
        DUE.by("SHARES of STOCKS 0, 1, 2: BAD, as stock()");
        for (int[] v : wrapping()) {
            String call = "share(" + v[0] + ", " + v[1] + ", " + v[2] + ")";
            BUSY.refused(call, x -> x.share(v[0], v[1], v[2]), KilnLine.BAD);
        }
    }

    private static void partsAndSharesAre250AtFirst() {
        DUE.by("250 each at first");
        for (int s = 0; s <= 3; s++) {
            int stock = s;
            NEW.taken("shareOf(" + s + ")", x -> x.shareOf(stock), 250);
            KilnLine x = new KilnLine();
            x.share(s == 0 ? 1000 : 0, s == 1 ? 1000 : 0, s == 2 ? 1000 : 0);
            for (int k = 0; k <= 3; k++) {
                DUE.is("mix(" + k + ") of STOCK " + s, x.mix(k), 250000);
            }
        }
    }

    private static void mixHasFourParts() {
        DUE.by("Part k (0 lime, 1 sand, 2 clay, 3 ore) of THE MIX. BAD");
        BUSY.range("mix(%d)", KilnLine::mix, 0, 465000, 3, 115000);
        BUSY.taken("mix(1)", x -> x.mix(1), 245000);
        BUSY.taken("mix(2)", x -> x.mix(2), 175000);
    }

    private static void mixIsFrom0ToAMillion() {
        DUE.by("THE MIX has of each of the four parts the sum of SHARES times the STOCK's part");
        int[][] alone = {{1000, 0, 0}, {0, 1000, 0}, {0, 0, 1000}, {0, 0, 0}};
        for (int part = 0; part <= 3; part++) {
            KilnLine x = stockedAlike(alone[part][0], alone[part][1], alone[part][2]);
            for (int[] shares : alone) {
                x.share(shares[0], shares[1], shares[2]);
                for (int k = 0; k <= 3; k++) {
                    DUE.is("mix(" + k + "), all of part " + part, x.mix(k), k == part ? 1000000 : 0);
                }
            }
        }
    }

    /** 999999 of lime, and 1 of something else. */
    private static void numberIsNoughtOnlyIfTheSumIs0() {
        DUE.by("NOUGHT if that sum is 0");
        new Bounds(DUE, () -> stockedAlike(1000, 0, 0)).found("number()", KilnLine::number, Bounds.NOUGHT);
        int[][] others = {{1, 0, 714285, 2}, {0, 1, 1666665, 2}, {0, 0, 1428570, 1}};
        for (int[] other : others) {
            KilnLine x = stockedAlike(1000, 0, 0);
            x.stock(3, 999, other[0], other[1]);
            x.share(999, 0, 0);
            DUE.is("number()", x.number(), 1);
            DUE.is("upper()", x.upper(), other[2]);
            DUE.is("lower()", x.lower(), other[3]);
            DUE.is("finding()", x.finding(), 0);
        }
    }

    private static void stocksWithoutSharesDoNotCount() {
        DUE.by("NOUGHT if that sum is 0");
        for (int s = 0; s <= 3; s++) {
            int stock = s;
            Bounds line = new Bounds(DUE, () -> {
                KilnLine x = new KilnLine();
                x.stock(stock, 1000, 0, 0);
                x.share(stock == 0 ? 1000 : 0, stock == 1 ? 1000 : 0, stock == 2 ? 1000 : 0);
                return x;
            });
            line.found("number() of STOCK " + s, KilnLine::number, Bounds.NOUGHT);
        }
    }

    private static void numberIsInLowestTerms() {
        DUE.by("in lowest terms, the lower number above 0");
        number(stockedAlike(0, 1000, 0), 0, 1);
        number(stockedAlike(0, 0, 1000), 0, 1);
        number(stockedAlike(0, 0, 0), 0, 1);
        number(stockedAlike(999, 1, 0), 4995, 14);
        number(stockedAlike(999, 0, 0), 9990, 7);
        number(stockedAlike(700, 0, 300), 35, 18);
        number(stockedAlike(412, 0, 0), 1030, 1029);
        // 1 of lime, 999999 of sand: the greatest lower number, 27999972, has 2 in common with 10
        KilnLine x = stockedAlike(0, 1000, 0);
        x.stock(3, 1, 999, 0);
        x.share(999, 0, 0);
        number(x, 5, 13999986);
        // 999997 of lime, 3 of ore: nothing in common
        KilnLine y = stockedAlike(1000, 0, 0);
        y.stock(3, 997, 0, 0);
        y.share(999, 0, 0);
        number(y, 9999970, 21);
    }

    private static void number(KilnLine x, long upper, long lower) {
        DUE.is("number()", x.number(), 1);
        DUE.is("upper()", x.upper(), upper);
        DUE.is("lower()", x.lower(), lower);
    }

    private static void aimIs1To1000Each() {
        DUE.by("THE AIM is a by b (1 .. 1000 each): 1. BAD");
        BUSY.range("aim(%d, 5)", (x, a) -> x.aim(a, 5), 1, 1, 1000, 1);
        BUSY.range("aim(5, %d)", (x, b) -> x.aim(5, b), 1, 1, 1000, 1);
    }

    /** 7920 by 2640 is 3 by 1; with one part of lime more or less it is not. */
    private static void aimIs3By1AtFirst() {
        DUE.by("THE AIM is a by b (3 by 1 at first)");
        DUE.is("at 3 by 1", readAtOnce(stockedAlike(792, 9, 199)), 1);
        DUE.is("above 3 by 1", readAtOnce(stockedAlike(793, 9, 198)), 3);
        DUE.is("below 3 by 1", readAtOnce(stockedAlike(791, 9, 200)), 2);
    }

    private static int readAtOnce(KilnLine x) {
        x.rule(0, 1);
        return x.hour(false);
    }

    /** THE NUMBER is 10 by 47; the AIMS nearest to it that there are lie 1 by 47 000 or so away. */
    private static void belowAtAndAboveTheAim() {
        DUE.by("is its NUMBER below THE AIM, STOCK 0 gets g SHARES more ..; is it above, the other way round");
        int[][] aims = {{10, 47, 1}, {210, 987, 1}, {203, 954, 2}, {207, 973, 3}};
        for (int[] a : aims) {
            KilnLine x = new KilnLine();
            x.aim(a[0], a[1]);
            DUE.is("hour(false), AIM " + a[0] + " by " + a[1], readAtOnce(x), a[2]);
            int[] shares = {0, 250, 251, 249};
            DUE.is("shareOf(0)", x.shareOf(0), shares[a[2]]);
            DUE.is("shareOf(1)", x.shareOf(1), 500 - shares[a[2]]);
        }
    }

    /** Here 10 times the lime times b, or the sum times a, is more than an int holds. */
    private static void theAimDoesNotWrapAround() {
        DUE.by("is its NUMBER below THE AIM");
        int[][] mixes = {{250, 250, 250}, {999, 0, 0}, {999, 1, 0}, {500, 500, 0}, {300, 100, 600}, {1, 999, 0}, {43, 900, 57}};
        int[][] aims = {{1000, 1}, {1, 1000}, {1000, 1000}, {999, 1000}, {1000, 999}, {500, 1}, {1, 500}, {172, 1000}};
        for (int[] m : mixes) {
            for (int[] a : aims) {
                KilnLine x = stockedAlike(m[0], m[1], m[2]);
                x.aim(a[0], a[1]);
                long is = 10L * m[0] * a[1];
                long due = (28L * m[1] + 12L * m[2] + 7L * (1000 - m[0] - m[1] - m[2])) * a[0];
                DUE.is("hour(false)", readAtOnce(x), is < due ? 2 : is > due ? 3 : 1);
            }
        }
    }

    private static void delayIs0To5() {
        DUE.by("it comes DELAY HOURS later (0 .. 5");
        BUSY.range("rule(%d, 7)", (x, delay) -> x.rule(delay, 7), 0, 1, 5, 1);
    }

    private static void aSampleComesDelayHoursLater() {
        DUE.by("it comes DELAY HOURS later (0 .. 5");
        for (int delay = 0; delay <= 5; delay++) {
            KilnLine x = new KilnLine();
            x.rule(delay, 10);
            for (int h = 0; h <= 7; h++) {
                DUE.is("hour " + h + ", DELAY " + delay, x.hour(h > 0), h == delay ? 2 : 0);
                DUE.is("read()", x.read(), h == delay ? 0 : KilnLine.NONE);
                DUE.is("shareOf(0)", x.shareOf(0), h >= delay ? 260 : 250);
            }
        }
    }

    private static void delayIsAsItIsWhenTheSampleIsTaken() {
        DUE.by("as DELAY is when it is taken");
        for (int first = 0; first <= 5; first++) {
            for (int then = 0; then <= 5; then++) {
                KilnLine x = new KilnLine();
                x.rule(first, 10);
                x.hour(false);
                x.rule(then, 10);
                for (int h = 1; h <= 7; h++) {
                    DUE.is("hour " + h + ", DELAY " + first, x.hour(true), h == first ? 2 : 0);
                }
            }
        }
    }

    private static void aLostSampleNeverComes() {
        DUE.by("or never, if it is LOST");
        for (int delay = 0; delay <= 5; delay++) {
            KilnLine x = new KilnLine();
            x.rule(delay, 10);
            for (int h = 0; h < 8; h++) {
                DUE.is("hour(true)", x.hour(true), 0);
                DUE.is("read()", x.read(), KilnLine.NONE);
            }
            DUE.is("passed()", x.passed(), 0);
            DUE.is("count(1)", x.count(1), 8);
        }
    }

    /** DELAYS 5, 4, .. 0: all SAMPLES come in HOUR 5. */
    private static KilnLine sixComeAtOnce(int lost) {
        KilnLine x = new KilnLine();
        for (int h = 0; h <= 5; h++) {
            x.rule(5 - h, 10);
            DUE.is("hour " + h, x.hour((lost >> h & 1) == 1), h == 5 && lost != 63 ? 2 : 0);
            DUE.is("passed() by HOUR " + h, h < 5 ? x.passed() : 0, 0);
        }
        return x;
    }

    private static void theYoungestIsRead() {
        DUE.by("the youngest one is read (older ones, too, are read by that and not looked at)");
        for (int lost = 0; lost < 64; lost++) {
            KilnLine x = sixComeAtOnce(lost);
            int come = 63 & ~lost;
            int youngest = come == 0 ? KilnLine.NONE : 31 - Integer.numberOfLeadingZeros(come);
            DUE.is("read(), LOST " + lost, x.read(), youngest);
            DUE.is("passed(), LOST " + lost, x.passed(), Math.max(0, Integer.bitCount(come) - 1));
            DUE.is("shareOf(0)", x.shareOf(0), come == 0 ? 250 : 260);
            DUE.is("hour(true): none is left", x.hour(true), 0);
            DUE.is("read()", x.read(), KilnLine.NONE);
        }
    }

    private static void gainIs0To100() {
        DUE.by("g: THE GAIN, 0 .. 100");
        BUSY.range("rule(2, %d)", (x, gain) -> x.rule(2, gain), 0, 1, 100, 1);
        for (int gain : new int[] {0, 1, 100}) {
            KilnLine x = new KilnLine();
            x.rule(0, gain);
            DUE.is("hour(false), GAIN " + gain, x.hour(false), gain == 0 ? 1 : 2);
            DUE.is("shareOf(0)", x.shareOf(0), 250 + gain);
            DUE.is("shareOf(1)", x.shareOf(1), 250 - gain);
            DUE.is("read()", x.read(), 0);
            x.aim(1, 1000);
            DUE.is("hour(false), above", x.hour(false), gain == 0 ? 1 : 3);
            DUE.is("shareOf(0)", x.shareOf(0), 250);
            DUE.is("shareOf(1)", x.shareOf(1), 250);
        }
    }

    private static void stock0GetsFewerIfStock1HasNotSoMany() {
        DUE.by("fewer, if STOCK 1 has not so many");
        for (int gain : new int[] {1, 50, 100}) {
            for (int had : new int[] {0, gain - 1, gain, gain + 1, 1000}) {
                int moved = Math.min(gain, had);
                KilnLine x = new KilnLine();
                x.rule(0, gain);
                x.share(0, had, 0);
                DUE.is("hour(false), " + had + " of " + gain, x.hour(false), moved == 0 ? 1 : 2);
                shares(x, moved, had - moved, 0, 1000 - had);
            }
        }
    }

    private static void stock1GetsFewerIfStock0HasNotSoMany() {
        DUE.by("is it above, the other way round");
        for (int gain : new int[] {1, 50, 100}) {
            for (int had : new int[] {0, gain - 1, gain, gain + 1, 1000}) {
                int moved = Math.min(gain, had);
                KilnLine x = new KilnLine();
                x.rule(0, gain);
                x.aim(1, 1000);
                x.share(had, 0, 1000 - had);
                DUE.is("hour(false), " + had + " of " + gain, x.hour(false), moved == 0 ? 1 : 3);
                shares(x, had - moved, moved, 1000 - had, 0);
            }
        }
    }

    private static void shares(KilnLine x, int... due) {
        for (int s = 0; s <= 3; s++) {
            DUE.is("shareOf(" + s + ")", x.shareOf(s), due[s]);
        }
    }

    private static void withNoughtNothing() {
        DUE.by("With NOUGHT nothing");
        for (int aim : new int[] {1, 1000}) {
            KilnLine x = stockedAlike(1000, 0, 0);
            x.aim(aim, 1001 - aim);
            x.rule(0, 100);
            DUE.is("hour(false)", x.hour(false), 1);
            DUE.is("read()", x.read(), 0);
            DUE.is("passed()", x.passed(), 0);
            shares(x, 250, 250, 250, 250);
            DUE.is("finding(): none was answered", x.finding(), 0);
        }
    }

    private static void hoursAre200AtMost() {
        DUE.by("FULL: 200 HOURS");
        Bounds last = new Bounds(DUE, () -> afterHours(199));
        last.taken("the 200th", x -> x.hour(false), 1);
        last.taken("the 200th, LOST", x -> x.hour(true), 1);
        ALL_HOURS.refused("the 201st", x -> x.hour(false), KilnLine.FULL);
        ALL_HOURS.refused("the 201st, LOST", x -> x.hour(true), KilnLine.FULL);
        ALL_HOURS.taken("count(1)", x -> x.count(1), 200);
        KilnLine x = new KilnLine();
        for (int h = 0; h < 200; h++) {
            DUE.is("hour(true): LOST ones count", x.hour(true), 0);
        }
        DUE.is("hour(false)", x.hour(false), KilnLine.FULL);
    }

    private static void readIsOfTheLatestHour() {
        DUE.by("The HOUR (0, 1, ..) of whose SAMPLE the latest hour() read; NONE: none");
        NEW.unchanged("read()", KilnLine::read, KilnLine.NONE);
        BUSY.taken("read()", KilnLine::read, KilnLine.NONE);
        ALL_HOURS.taken("read()", KilnLine::read, 198);
        KilnLine x = afterHours(199);
        x.rule(0, 10);
        x.hour(false);
        DUE.is("read(): the last HOUR's", x.read(), 199);
        x.hour(false);
        DUE.is("read(): stays, as that was refused", x.read(), 199);
        KilnLine y = afterHours(2);
        DUE.is("read(): the first HOUR's", y.read(), 0);
        y.hour(true);
        DUE.is("read()", y.read(), 1);
        y.hour(true);
        DUE.is("read(): none", y.read(), KilnLine.NONE);
    }

    private static void passedLeavesOutWhatIsLostOrToCome() {
        DUE.by("never read as the youngest, and are not LOST, nor to come");
        NEW.taken("passed()", KilnLine::passed, 0);
        BUSY.taken("passed(): two to come, one LOST", KilnLine::passed, 0);
        KilnLine x = new KilnLine();
        x.rule(2, 10);
        x.hour(false);
        x.rule(1, 10);
        x.hour(false);
        DUE.is("passed(): both to come", x.passed(), 0);
        x.hour(true);
        DUE.is("passed(): both came", x.passed(), 1);
        DUE.is("read()", x.read(), 1);
        // An older one that comes behind a younger one is the youngest of its HOUR.
        KilnLine y = new KilnLine();
        y.rule(2, 10);
        y.hour(false);
        y.rule(0, 10);
        y.hour(false);
        DUE.is("read()", y.read(), 1);
        DUE.is("passed(): to come", y.passed(), 0);
        y.hour(true);
        DUE.is("read()", y.read(), 0);
        DUE.is("passed(): read as the youngest", y.passed(), 0);
    }

    /** DELAY 1, 0, 1, 0, ..: each second HOUR two come; at the end five SAMPLES are to come for ever. */
    private static void passedOfAllHours() {
        DUE.by("How many HOURS' SAMPLES were never read as the youngest");
        KilnLine x = new KilnLine();
        for (int h = 0; h < 194; h++) {
            x.rule(1 - h % 2, 0);
            DUE.is("hour " + h, x.hour(false), h % 2);
            if (h % 4 == 1) {
                DUE.is("passed() by HOUR " + h, x.passed(), (h + 1) / 2);
            }
        }
        x.rule(5, 0);
        for (int h = 194; h < 200; h++) {
            DUE.is("hour " + h, x.hour(false), h == 199 ? 1 : 0);
        }
        DUE.is("hour 200", x.hour(false), KilnLine.FULL);
        DUE.is("passed()", x.passed(), 97);
    }
}
