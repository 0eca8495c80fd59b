import java.util.Random;

/** Promises 18 to 24: the kiln. */
public final class KilnTest {
    private static final Due DUE = new Due("KilnTest");

    public static void main(String[] args) {
        gasGoesUpTheZones();
        coolingGivesATenthFirst();
        stuffGoesDownTheZones();
        greatHeatsAreHandedOnWhole();
        gradesAreByBurn();
        tooHotIsAboveTwoHundredATon();
        tooMuchIsAboveTwoThousand();
        rawTonsAreACause();
        fuelWithoutStuffIsACause();
        theLeastCauseIsTold();
        stepRefuses();
        stepIsFullAt500();
        aStoppedKilnBurnsNoFuel();
        zoneTells();
        warmthTells();
        outAndSumRefuse();
        firstIsSinceTheLatestStart();
        runsAreAsReckonedPlainly();
        DUE.end();
    }

    private static void gasGoesUpTheZones() {
        KilnLine x = new KilnLine();
        DUE.is("step(100, 5000, 50)", x.step(100, 5000, 50), 4);
        DUE.heats(x, 468, 625, 2500, 0);
        DUE.stuffs(x, 100, 0, 0, 0);
        DUE.is("out(6)", x.out(6), 1407);
        KilnLine y = new KilnLine();
        y.step(0, 7, 0);
        // half of 7 is 3; a quarter of 4 is 1; a quarter of 3 is none
        DUE.heats(y, 0, 1, 3, 0);
        DUE.is("out(6)", y.out(6), 3);
        y.step(0, 100000, 100);
        DUE.heats(y, 9375, 12501, 50003, 0);
        DUE.is("out(6)", y.out(6), 28125);
    }

    /** 10 tons in ZONE 3 with a HEAT of half the fuel, behind 5 STEPS. */
    private static KilnLine withTenTonsAhead(int fuel) {
        KilnLine x = new KilnLine();
        x.step(10, 0, 100);
        x.step(0, 0, 100);
        x.step(0, 0, 100);
        x.step(0, fuel, 0);
        x.step(0, 0, 100);
        return x;
    }

    private static void coolingGivesATenthFirst() {
        KilnLine x = withTenTonsAhead(1332);
        DUE.stuffs(x, 0, 0, 0, 10);
        DUE.heats(x, 125, 166, 0, 666);
        DUE.is("step(3, 0, 100)", x.step(3, 0, 100), 0);
        DUE.stuffs(x, 3, 0, 0, 0);
        // 66 of gas: 33, 8 and 6 of it are taken
        DUE.heats(x, 131, 174, 33, 0);
        DUE.is("out(0)", x.out(0), 10);
        DUE.is("out(1)", x.out(1), 600);
        DUE.is("out(6)", x.out(6), 19);
        // Without STUFF no HEAT is handed on, but the gas gets its tenth.
        KilnLine y = withTenTonsAhead(1332);
        y.step(0, 100, 0);
        DUE.heats(y, 125 + 15, 166 + 20, 83, 600);
        DUE.is("out(6)", y.out(6), 48);
    }

    private static void stuffGoesDownTheZones() {
        KilnLine x = new KilnLine();
        x.step(10, 800, 33);
        DUE.stuffs(x, 10, 0, 0, 0);
        DUE.heats(x, 75, 100, 400, 0);
        x.step(20, 0, 39);
        // 3 of 10 tons, and of 75 the like: 22
        DUE.stuffs(x, 27, 3, 0, 0);
        DUE.heats(x, 53, 122, 400, 0);
        x.step(0, 0, 99);
        // 26 of 27 with 51 of 53; 2 of 3 with 81 of 122
        DUE.stuffs(x, 1, 27, 2, 0);
        DUE.heats(x, 2, 92, 481, 0);
        x.step(0, 0, 50);
        DUE.stuffs(x, 1, 14, 14, 1);
        DUE.heats(x, 2, 92 - 44, 481 - 240 + 44, 240);
        DUE.is("out(0)", x.out(0), 0);
        DUE.is("out(1)", x.out(1), 0);
        x.step(0, 0, 0);
        DUE.stuffs(x, 1, 14, 14, 1);
        DUE.heats(x, 2 + 2, 48 + 3, 285 + 12, 216);
    }

    /** HEAT times tons is more than an int holds here. */
    private static void greatHeatsAreHandedOnWhole() {
        KilnLine x = new KilnLine();
        for (int i = 0; i < 50; i++) {
            DUE.is("step(0, 100000, 0)", x.step(0, 100000, 0), 4);
        }
        DUE.heats(x, 50 * 9375, 50 * 12500, 50 * 50000, 0);
        DUE.is("step(1000, 0, 0)", x.step(1000, 0, 0), 1);
        x.step(0, 0, 100);
        DUE.heats(x, 0, 50 * 21875, 50 * 50000, 0);
        x.step(0, 0, 100);
        DUE.heats(x, 0, 0, 50 * 71875, 0);
        DUE.is("warmth(2, 1)", x.warmth(2, 1), 3593);
        x.step(0, 0, 100);
        DUE.heats(x, 0, 0, 0, 50 * 71875);
        x.step(0, 0, 100);
        DUE.is("out(1)", x.out(1), 45 * 71875);
        DUE.is("out(2)", x.out(2), 3234);
    }

    private static void gradesAreByBurn() {
        burnt(1332, 600, 60, 2, 0);
        burnt(1330, 599, 59, 1, 0);
        burnt(666, 300, 30, 1, 0);
        burnt(664, 299, 29, 0, 3);
        burnt(0, 0, 0, 0, 3);
        burnt(4000, 1800, 180, 2, 0);
    }

    private static void burnt(int fuel, int heat, int burn, int grade, int cause) {
        KilnLine x = withTenTonsAhead(fuel);
        DUE.is("step(0, 0, 100) after " + fuel, x.step(0, 0, 100), cause);
        DUE.is("out(0)", x.out(0), 10);
        DUE.is("out(1)", x.out(1), heat);
        DUE.is("out(2)", x.out(2), burn);
        DUE.is("out(3)", x.out(3), grade);
        DUE.is("out(4)", x.out(4), cause);
        DUE.is("out(5)", x.out(5), cause == 0 ? KilnLine.NONE : 3);
        for (int s = 0; s <= 2; s++) {
            DUE.is("silo(s, 0)", x.silo(s, 0), s == grade ? 10 : 0);
            DUE.is("silo(s, 1)", x.silo(s, 1), s == grade ? 1 : 0);
        }
    }

    private static void tooHotIsAboveTwoHundredATon() {
        KilnLine x = new KilnLine();
        DUE.is("step(1, 2134, 0)", x.step(1, 2134, 0), 4);
        DUE.is("zone(0, 1): 200, not above", x.zone(0, 1), 200);
        DUE.is("count(4)", x.count(4), 0);
        KilnLine y = new KilnLine();
        DUE.is("step(1, 2142, 0)", y.step(1, 2142, 0), 1);
        DUE.is("zone(0, 1)", y.zone(0, 1), 201);
        DUE.is("out(5)", y.out(5), 0);
        DUE.is("count(4)", y.count(4), 1);
        // ZONE 3 has 10 tons and 2000 of HEAT at most.
        DUE.is("out(4)", withTenTonsAhead(4000).out(4), 0);
        KilnLine z = withTenTonsAhead(4002);
        DUE.is("out(4)", z.out(4), 1);
        DUE.is("out(5)", z.out(5), 3);
        DUE.is("count(4)", z.count(4), 1);
    }

    private static void tooMuchIsAboveTwoThousand() {
        KilnLine x = new KilnLine();
        DUE.is("step(1000, 0, 0)", x.step(1000, 0, 0), 0);
        DUE.is("step(1000, 0, 0)", x.step(1000, 0, 0), 0);
        DUE.is("count(4)", x.count(4), 0);
        DUE.is("step(1, 0, 0)", x.step(1, 0, 0), 2);
        DUE.is("out(5)", x.out(5), 0);
        DUE.is("count(4)", x.count(4), 1);
        for (int z = 1; z <= 3; z++) {
            DUE.is("step(0, 0, 100)", x.step(0, 0, 100), 2);
            DUE.is("out(5)", x.out(5), z);
        }
        DUE.is("step(0, 0, 100)", x.step(0, 0, 100), 3);
        DUE.is("out(0)", x.out(0), 2001);
        DUE.is("count(4): till it is started", x.count(4), 1);
    }

    private static void rawTonsAreACause() {
        KilnLine x = withTenTonsAhead(0);
        DUE.is("step(0, 0, 9): no tons", x.step(0, 0, 9), 0);
        DUE.is("step(0, 0, 10): one ton", x.step(0, 0, 10), 3);
        DUE.is("out(5)", x.out(5), 3);
        DUE.is("count(4): not STOPPED", x.count(4), 0);
    }

    private static void fuelWithoutStuffIsACause() {
        KilnLine x = new KilnLine();
        DUE.is("step(10, 0, 100): no fuel", x.step(10, 0, 100), 0);
        DUE.is("step(0, 1, 100)", x.step(0, 1, 100), 4);
        DUE.is("out(5)", x.out(5), 2);
        DUE.is("count(4): not STOPPED", x.count(4), 0);
        DUE.is("step(0, 1, 100): STUFF behind it", x.step(0, 1, 100), 0);
        DUE.is("out(5)", x.out(5), KilnLine.NONE);
        DUE.is("step(0, 1, 100): no STUFF behind it", x.step(0, 1, 100), 4);
    }

    private static void theLeastCauseIsTold() {
        // 1 (ZONE 3) ahead of 2 (ZONE 0), though its ZONE is not the least
        KilnLine x = withTenTonsAhead(4002);
        DUE.is("step(1000, 0, 0)", x.step(1000, 0, 0), 0);
        KilnLine y = withTenTonsAhead(8000);
        y.step(1000, 0, 0);
        y.step(1000, 0, 0);
        DUE.is("step(1000, 0, 0)", y.step(1000, 0, 0), 1);
        DUE.is("out(5)", y.out(5), 3);
        DUE.is("zone(0, 0)", y.zone(0, 0), 3000);
        // 2 ahead of 3 and 4
        KilnLine z = withTenTonsAhead(0);
        z.step(1000, 0, 0);
        z.step(1000, 0, 0);
        DUE.is("step(1000, 1, 10)", z.step(1000, 1, 10), 2);
        DUE.is("out(0)", z.out(0), 1);
        // 3 ahead of 4
        KilnLine w = withTenTonsAhead(0);
        DUE.is("step(0, 1, 100)", w.step(0, 1, 100), 3);
    }

    private static void stepRefuses() {
        KilnLine x = new KilnLine();
        int[][] bad = {
            {-1, 0, 0}, {1001, 0, 0}, {0, -1, 0}, {0, 100001, 0}, {0, 0, -1}, {0, 0, 101},
            {Integer.MIN_VALUE, 0, 0}, {0, Integer.MAX_VALUE, 0}, {0, 0, Integer.MIN_VALUE},
        };
        for (int[] b : bad) {
            DUE.is("step(" + b[0] + ", " + b[1] + ", " + b[2] + ")", x.step(b[0], b[1], b[2]), KilnLine.BAD);
        }
        DUE.is("count(2)", x.count(2), 0);
        DUE.is("out(0)", x.out(0), KilnLine.NONE);
        DUE.is("step(1000, 100000, 100)", x.step(1000, 100000, 100), 4);
        DUE.is("count(2)", x.count(2), 1);
    }

    private static void stepIsFullAt500() {
        KilnLine x = new KilnLine();
        for (int i = 0; i < 500; i++) {
            x.step(1000, i < 250 ? 100000 : 0, 0);
        }
        DUE.is("count(2)", x.count(2), 500);
        DUE.is("zone(0, 0)", x.zone(0, 0), 500000);
        DUE.is("step(0, 0, 0), the 501st", x.step(0, 0, 0), KilnLine.FULL);
        DUE.is("step(0, 0, 101): BAD ahead of FULL", x.step(0, 0, 101), KilnLine.BAD);
        DUE.is("count(2)", x.count(2), 500);
        DUE.is("start()", x.start(), 1);
        DUE.is("step(0, 0, 0)", x.step(0, 0, 0), KilnLine.FULL);
    }

    private static void aStoppedKilnBurnsNoFuel() {
        KilnLine x = new KilnLine();
        DUE.is("start()", x.start(), 0);
        DUE.is("step(1, 2142, 0)", x.step(1, 2142, 0), 1);
        DUE.is("step(999, 100000, 0): none counts", x.step(999, 100000, 0), 0);
        DUE.is("zone(2, 1)", x.zone(2, 1), 1071);
        DUE.is("zone(0, 0): F counts", x.zone(0, 0), 1000);
        DUE.is("out(6)", x.out(6), 0);
        DUE.is("count(4)", x.count(4), 1);
        DUE.is("sum(1)", x.sum(1), 1);
        DUE.is("asked()", x.asked(), 2142);
        DUE.is("start()", x.start(), 1);
        DUE.is("count(4)", x.count(4), 0);
        DUE.is("start()", x.start(), 0);
        DUE.is("step(0, 100, 0)", x.step(0, 100, 0), 4);
        DUE.is("zone(2, 1)", x.zone(2, 1), 1121);
    }

    private static void zoneTells() {
        KilnLine x = withTenTonsAhead(1332);
        int[] kinds = {0, 0, 1, 2};
        for (int z = 0; z <= 3; z++) {
            DUE.is("zone(z, 2)", x.zone(z, 2), kinds[z]);
        }
        DUE.is("zone(3, 0)", x.zone(3, 0), 10);
        DUE.is("zone(3, 1)", x.zone(3, 1), 666);
        DUE.is("zone(-1, 0)", x.zone(-1, 0), KilnLine.BAD);
        DUE.is("zone(4, 0)", x.zone(4, 0), KilnLine.BAD);
        DUE.is("zone(0, -1)", x.zone(0, -1), KilnLine.BAD);
        DUE.is("zone(0, 3)", x.zone(0, 3), KilnLine.BAD);
    }

    private static void warmthTells() {
        KilnLine x = withTenTonsAhead(1332);
        DUE.is("warmth(3, 2)", x.warmth(3, 2), 66);
        DUE.is("warmth(3, 0): each is a ZONE", x.warmth(3, 0), 66);
        DUE.is("finding()", x.finding(), 0);
        DUE.is("warmth(3, 1)", x.warmth(3, 1), KilnLine.FINDING);
        DUE.is("finding(): UNLIKE", x.finding(), 3);
        DUE.is("warmth(2, 1)", x.warmth(2, 1), KilnLine.FINDING);
        DUE.is("finding(): NOUGHT", x.finding(), 4);
        DUE.is("warmth(2, 2): UNLIKE ahead of NOUGHT", x.warmth(2, 2), KilnLine.FINDING);
        DUE.is("finding(): UNLIKE", x.finding(), 3);
        DUE.is("warmth(2, 0)", x.warmth(2, 0), KilnLine.FINDING);
        DUE.is("finding(): NOUGHT", x.finding(), 4);
        DUE.is("warmth(0, 1)", x.warmth(0, 1), KilnLine.FINDING);
        DUE.is("warmth(1, 2)", x.warmth(1, 2), KilnLine.FINDING);
        DUE.is("findings(3)", x.findings(3), 4);
        DUE.is("findings(4)", x.findings(4), 2);
        DUE.is("warmth(-1, 0)", x.warmth(-1, 0), KilnLine.BAD);
        DUE.is("warmth(4, 0)", x.warmth(4, 0), KilnLine.BAD);
        DUE.is("warmth(0, -1)", x.warmth(0, -1), KilnLine.BAD);
        DUE.is("warmth(0, 3)", x.warmth(0, 3), KilnLine.BAD);
        DUE.is("findings(3)", x.findings(3), 4);
    }

    private static void outAndSumRefuse() {
        KilnLine x = new KilnLine();
        DUE.is("out(-1): BAD ahead of NONE", x.out(-1), KilnLine.BAD);
        DUE.is("out(7)", x.out(7), KilnLine.BAD);
        DUE.is("out(6)", x.out(6), KilnLine.NONE);
        x.step(0, 8, 0);
        DUE.is("out(-1)", x.out(-1), KilnLine.BAD);
        DUE.is("out(7)", x.out(7), KilnLine.BAD);
        DUE.is("out(6)", x.out(6), 3);
        DUE.is("sum(4)", x.sum(4), 1);
        DUE.is("asked()", x.asked(), 3);
        DUE.is("sum(-1)", x.sum(-1), KilnLine.BAD);
        DUE.is("sum(5)", x.sum(5), KilnLine.BAD);
        DUE.is("asked() stays", x.asked(), 3);
        DUE.is("step(0, 0, 101)", x.step(0, 0, 101), KilnLine.BAD);
        DUE.is("out(6) stays", x.out(6), 3);
    }

    private static void firstIsSinceTheLatestStart() {
        KilnLine x = new KilnLine();
        x.step(1, 0, 0);
        DUE.is("first()", x.first(), KilnLine.NONE);
        x.step(0, 1, 0);
        DUE.is("first()", x.first(), 1);
        DUE.is("start(): was not STOPPED", x.start(), 0);
        DUE.is("first() stays", x.first(), 1);
        DUE.is("step(0, 9000, 0)", x.step(0, 9000, 0), 1);
        DUE.is("first() stays", x.first(), 1);
        DUE.is("start()", x.start(), 1);
        DUE.is("first()", x.first(), KilnLine.NONE);
        DUE.is("step(0, 0, 0): still too hot", x.step(0, 0, 0), 1);
        DUE.is("first()", x.first(), 3);
        DUE.is("step(1000, 0, 0)", x.step(1000, 0, 0), 0);
        DUE.is("first() stays", x.first(), 3);
        DUE.is("start()", x.start(), 1);
        DUE.is("step(0, 0, 0)", x.step(0, 0, 0), 0);
        DUE.is("first()", x.first(), KilnLine.NONE);
    }

    /** All is compared now and then only, as nothing is promised of an object behind 512 calls. */
    private static void runsAreAsReckonedPlainly() {
        boolean[] causes = new boolean[5];
        boolean[] grades = new boolean[3];
        for (int seed = 0; seed < 300; seed++) {
            Random random = new Random(seed);
            KilnLine x = new KilnLine();
            PlainKiln plain = new PlainKiln();
            for (int i = 0; i < 150; i++) {
                int feed = random.nextInt(random.nextBoolean() ? 1001 : 200);
                int fuel = random.nextInt(4) == 0 ? 0 : random.nextInt(random.nextBoolean() ? 100001 : 20000);
                int speed = random.nextInt(101);
                plain.step(feed, fuel, speed);
                DUE.is("step, seed " + seed, x.step(feed, fuel, speed), plain.cause);
                if (i % 15 == seed % 15) {
                    compare(x, plain);
                }
                causes[plain.cause] = true;
                grades[plain.grade] |= plain.tons > 0;
                if (i % 6 == 0 && random.nextBoolean()) {
                    DUE.is("start()", x.start(), plain.stopped ? 1 : 0);
                    plain.stopped = false;
                }
            }
        }
        for (int cause = 0; cause <= 4; cause++) {
            DUE.holds("the runs had CAUSE " + cause, causes[cause]);
        }
        for (int grade = 0; grade <= 2; grade++) {
            DUE.holds("the runs had GRADE " + grade, grades[grade]);
        }
    }

    private static void compare(KilnLine x, PlainKiln plain) {
        for (int z = 0; z < 4; z++) {
            DUE.is("zone(z, 0)", x.zone(z, 0), plain.stuff[z]);
            DUE.is("zone(z, 1)", x.zone(z, 1), plain.heat[z]);
        }
        DUE.is("out(0)", x.out(0), plain.tons);
        DUE.is("out(1)", x.out(1), plain.hot);
        DUE.is("out(2)", x.out(2), plain.tons == 0 ? 0 : plain.hot / plain.tons);
        DUE.is("out(3)", x.out(3), plain.grade);
        DUE.is("out(4)", x.out(4), plain.cause);
        DUE.is("out(5)", x.out(5), plain.at);
        DUE.is("out(6)", x.out(6), plain.stack);
        DUE.is("count(4)", x.count(4), plain.stopped ? 1 : 0);
        for (int what = 0; what < 5; what++) {
            DUE.is("sum(what)", x.sum(what), 1);
            DUE.is("asked()", x.asked(), plain.sums[what]);
        }
    }
}
