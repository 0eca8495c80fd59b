/** Promises 18 to 24: each sentence on the kiln that names a boundary. */
public final class KilnBoundsTest {
    private static final Due DUE = new Due("KilnBoundsTest");
    private static final Bounds NEW = new Bounds(DUE, KilnLine::new);
    private static final Bounds BUSY = new Bounds(DUE, Busy::line);
    private static final Bounds STOPPED = new Bounds(DUE, KilnBoundsTest::stopped);
    private static final int[] KINDS = {0, 0, 1, 2};

    public static void main(String[] args) {
        zonesAre0To3();
        zonesHaveNothingAtFirst();
        zoneTellsOfThreeNumbers();
        feedIs0To1000();
        fuelIs0To100000();
        speedIs0To100();
        fuelCountsAs0WhenStopped();
        coolingGivesATenthCut();
        zonesTakeAHalfOrAQuarterCut();
        speedIsHundredthsCut();
        heatGoesWithTheStuffCut();
        noStuffHandsOnNoHeat();
        allIsAsItWasAhead();
        feedHasNoHeat();
        greatHeatsDoNotWrapAround();
        withoutTonsBurnIs0();
        burnIsCut();
        gradesBeginAt30And60();
        noLotWithoutTons();
        cause1IsAbove200ATon();
        cause1NeedsStuff();
        cause2IsAbove2000();
        cause3IsOfTons();
        cause3IsOfGrade0();
        cause4IsOfFuel();
        cause4IsOfNoStuffBehindTheStep();
        theLeastCauseIsTold();
        theLeastZoneIsTold();
        causes1And2Stop();
        causes3And4DoNotStop();
        stepsAre500AtMost();
        badIsAheadOfFull();
        startAnswersWhetherItWas();
        warmthIsOfAZoneAndAKind();
        warmthOfAnotherKindIsUnlike();
        warmthWithoutStuffIsNought();
        warmthIsCut();
        outIsNoneAheadOfTheFirstStep();
        outTellsOfSevenNumbers();
        sumTellsOfFiveNumbers();
        sumsOfNothing();
        sumsOfAllSteps();
        firstIsNoneOrOfAnyStep();
        firstIsSinceTheLatestStart();
        DUE.end();
    }

    /** ZONE 0 has 1 ton with 201 of HEAT; ZONES 1, 2 have HEAT 267, 1071 and no STUFF. */
    private static KilnLine stopped() {
        KilnLine x = new KilnLine();
        x.step(1, 2142, 0);
        return x;
    }

    private static KilnLine tonsIn(int zone, int tons) {
        KilnLine x = new KilnLine();
        x.step(tons, 0, 100);
        for (int z = 0; z < zone; z++) {
            x.step(0, 0, 100);
        }
        return x;
    }

    /** ZONE 3 has these tons with a HEAT of half the fuel. */
    private static KilnLine burntIn3(int tons, int fuel) {
        KilnLine x = tonsIn(2, tons);
        x.step(0, fuel, 0);
        x.step(0, 0, 100);
        return x;
    }

    private static KilnLine afterSteps(int steps, int feed, int fuel) {
        KilnLine x = new KilnLine();
        for (int i = 0; i < steps; i++) {
            x.step(feed, fuel, 100);
        }
        return x;
    }

    private static void caused(KilnLine x, int cause, int zone) {
        DUE.is("out(4)", x.out(4), cause);
        DUE.is("out(5)", x.out(5), zone);
    }

    private static void zonesAre0To3() {
        DUE.by("THE KILN has ZONES 0 .. 3");
        BUSY.range("zone(%d, 0)", (x, z) -> x.zone(z, 0), 0, 10, 3, 4);
        BUSY.range("zone(%d, 1)", (x, z) -> x.zone(z, 1), 0, 18, 3, 168);
        BUSY.range("zone(%d, 2)", (x, z) -> x.zone(z, 2), 0, 0, 3, 2);
        BUSY.range("warmth(%d, 0)", (x, z) -> x.warmth(z, 0), 0, 1, 3, 42);
    }

    private static void zonesHaveNothingAtFirst() {
        DUE.by("STUFF and HEAT (0 at first), of KINDS 0, 0, 1, 2");
        for (int z = 0; z <= 3; z++) {
            int zone = z;
            NEW.taken("zone(" + z + ", 0)", x -> x.zone(zone, 0), 0);
            NEW.taken("zone(" + z + ", 1)", x -> x.zone(zone, 1), 0);
            NEW.taken("zone(" + z + ", 2)", x -> x.zone(zone, 2), KINDS[z]);
        }
    }

    private static void zoneTellsOfThreeNumbers() {
        DUE.by("Of a ZONE: 0 STUFF, 1 HEAT, 2 its KIND. BAD");
        BUSY.range("zone(2, %d)", (x, what) -> x.zone(2, what), 0, 15, 2, 1);
        BUSY.taken("zone(2, 1)", x -> x.zone(2, 1), 182);
    }

    private static void feedIs0To1000() {
        DUE.by("feed F (0 .. 1000)");
        BUSY.range("step(%d, 0, 0)", (x, feed) -> x.step(feed, 0, 0), 0, 0, 1000, 0);
        DUE.stuffs(BUSY.taken("step(0, 0, 0)", x -> x.step(0, 0, 0), 0), 10, 23, 15, 4);
        DUE.stuffs(BUSY.taken("step(1000, 0, 0)", x -> x.step(1000, 0, 0), 0), 1010, 23, 15, 4);
    }

    private static void fuelIs0To100000() {
        DUE.by("fuel Q (0 .. 100000)");
        BUSY.range("step(0, %d, 0)", (x, fuel) -> x.step(0, fuel, 0), 0, 0, 100000, 1);
        // 16 come from ZONE 3
        DUE.heats(BUSY.taken("step(0, 0, 0)", x -> x.step(0, 0, 0), 0), 19, 102, 190, 152);
        DUE.heats(NEW.taken("step(0, 100000, 0)", x -> x.step(0, 100000, 0), 4), 9375, 12500, 50000, 0);
    }

    private static void speedIs0To100() {
        DUE.by("speed v (0 .. 100)");
        BUSY.range("step(0, 0, %d)", (x, speed) -> x.step(0, 0, speed), 0, 0, 100, 0);
        KilnLine x = BUSY.taken("step(0, 0, 100)", y -> y.step(0, 0, 100), 0);
        DUE.stuffs(x, 0, 10, 23, 15);
        DUE.heats(x, 0, 19, 102, 190);
        DUE.is("out(0)", x.out(0), 4);
        DUE.is("out(1)", x.out(1), 152);
    }

    private static void fuelCountsAs0WhenStopped() {
        DUE.by("STOPPED: Q counts as 0");
        for (int fuel : new int[] {0, 1, 100000}) {
            KilnLine x = STOPPED.taken("step(0, " + fuel + ", 0)", y -> y.step(0, fuel, 0), 1);
            DUE.heats(x, 201, 267, 1071, 0);
            DUE.is("out(6)", x.out(6), 0);
            DUE.is("sum(1)", x.sum(1), 1);
            DUE.is("asked()", x.asked(), 2142);
        }
        STOPPED.refused("step(0, 100001, 0)", x -> x.step(0, 100001, 0), KilnLine.BAD);
        STOPPED.refused("step(0, -1, 0)", x -> x.step(0, -1, 0), KilnLine.BAD);
    }

    private static void coolingGivesATenthCut() {
        DUE.by("a COOLING ZONE gives the gas a tenth of its HEAT first (cut)");
        int[][] heats = {{0, 0}, {1, 0}, {9, 0}, {10, 1}, {19, 1}, {20, 2}, {99, 9}, {100, 10}};
        for (int[] h : heats) {
            KilnLine x = burntIn3(10, 2 * h[0]);
            int ahead = heatAbove(x);
            DUE.is("zone(3, 1) ahead", x.zone(3, 1), h[0]);
            x.step(0, 0, 0);
            DUE.is("zone(3, 1)", x.zone(3, 1), h[0] - h[1]);
            DUE.is("what it gave", heatAbove(x) - ahead + x.out(6), h[1]);
        }
    }

    private static int heatAbove(KilnLine x) {
        return x.zone(0, 1) + x.zone(1, 1) + x.zone(2, 1);
    }

    private static void zonesTakeAHalfOrAQuarterCut() {
        DUE.by("take of the gas: a BURNING one half, another one a quarter (cut)");
        int[][] gas = {
            {0, 0, 0, 0, 0}, {1, 0, 0, 0, 1}, {2, 1, 0, 0, 1}, {3, 1, 0, 0, 2}, {4, 2, 0, 0, 2}, {5, 2, 0, 0, 3},
            {6, 3, 0, 0, 3}, {7, 3, 1, 0, 3}, {8, 4, 1, 0, 3}, {9, 4, 1, 1, 3}, {99999, 49999, 12500, 9375, 28125},
        };
        for (int[] g : gas) {
            KilnLine x = new KilnLine();
            x.step(0, g[0], 100);
            DUE.heats(x, g[3], g[2], g[1], 0);
            DUE.is("out(6) of " + g[0], x.out(6), g[4]);
        }
    }

    private static void speedIsHundredthsCut() {
        DUE.by("each ZONE hands on v hundredths of its STUFF (cut)");
        int[][] handed = {
            {99, 1, 0}, {100, 1, 1}, {199, 1, 1}, {200, 1, 2}, {1, 99, 0}, {1, 100, 1}, {2, 49, 0}, {2, 50, 1},
            {1000, 0, 0}, {1000, 99, 990}, {1000, 100, 1000}, {0, 100, 0},
        };
        for (int[] h : handed) {
            for (int zone = 0; zone <= 3; zone++) {
                KilnLine x = tonsIn(zone, h[0]);
                x.step(0, 0, h[1]);
                DUE.is("left in ZONE " + zone, x.zone(zone, 0), h[0] - h[2]);
                DUE.is("handed on by ZONE " + zone, zone == 3 ? x.out(0) : x.zone(zone + 1, 0), h[2]);
            }
        }
    }

    /** 10 tons in ZONE 2 with 66 of HEAT, behind a STEP with a fuel of 133. */
    private static void heatGoesWithTheStuffCut() {
        DUE.by("of its HEAT as much as that is of its STUFF (cut");
        int[][] handed = {{0, 0, 0}, {9, 0, 0}, {10, 1, 6}, {19, 1, 6}, {50, 5, 33}, {60, 6, 39}, {90, 9, 59}, {99, 9, 59}, {100, 10, 66}};
        for (int[] h : handed) {
            KilnLine x = tonsIn(2, 10);
            x.step(0, 133, 0);
            x.step(0, 0, h[0]);
            DUE.stuffs(x, 0, 0, 10 - h[1], h[1]);
            DUE.is("zone(2, 1) at speed " + h[0], x.zone(2, 1), 66 - h[2]);
            DUE.is("zone(3, 1) at speed " + h[0], x.zone(3, 1), h[2]);
        }
    }

    private static void noStuffHandsOnNoHeat() {
        DUE.by("no STUFF: none");
        KilnLine x = new KilnLine();
        x.step(0, 800, 100);
        DUE.heats(x, 75, 100, 400, 0);
        x.step(0, 0, 100);
        DUE.heats(x, 75, 100, 400, 0);
        DUE.is("out(1)", x.out(1), 0);
        // One STEP later there is STUFF in ZONE 0, which takes all HEAT along.
        x.step(1, 0, 0);
        x.step(0, 0, 100);
        DUE.heats(x, 0, 175, 400, 0);
    }

    private static void allIsAsItWasAhead() {
        DUE.by("all as they were ahead of this: to the next one, ZONE 3 OUT");
        KilnLine x = new KilnLine();
        for (int feed = 1; feed <= 4; feed++) {
            x.step(feed, 0, 100);
        }
        DUE.stuffs(x, 4, 3, 2, 1);
        DUE.is("step(5, 0, 100)", x.step(5, 0, 100), 3);
        DUE.stuffs(x, 5, 4, 3, 2);
        DUE.is("out(0)", x.out(0), 1);
    }

    private static void feedHasNoHeat() {
        DUE.by("F comes to ZONE 0, without HEAT");
        for (int speed : new int[] {0, 100}) {
            KilnLine x = NEW.taken("step(1000, 0, speed)", y -> y.step(1000, 0, speed), 0);
            DUE.stuffs(x, 1000, 0, 0, 0);
            DUE.heats(x, 0, 0, 0, 0);
        }
        KilnLine y = tonsIn(0, 10);
        y.step(10, 106, 100);
        DUE.stuffs(y, 10, 10, 0, 0);
        // The 10 of HEAT that ZONE 0 took went on to ZONE 1, with 13 of its own.
        DUE.heats(y, 0, 23, 53, 0);
    }

    /** HEAT times tons is more than an int holds, and so it is with ever more of both. */
    private static void greatHeatsDoNotWrapAround() {
        DUE.by("of its HEAT as much as that is of its STUFF (cut");
        KilnLine x = new KilnLine();
        for (int i = 0; i < 300; i++) {
            x.step(0, 100000, 0);
        }
        DUE.heats(x, 300 * 9375, 300 * 12500, 300 * 50000, 0);
        for (int i = 0; i < 100; i++) {
            x.step(1000, 0, 0);
        }
        DUE.is("step(0, 0, 99)", x.step(0, 0, 99), 2);
        DUE.stuffs(x, 1000, 99000, 0, 0);
        DUE.heats(x, 28125, 2784375 + 300 * 12500, 300 * 50000, 0);
        DUE.is("step(0, 0, 100)", x.step(0, 0, 100), 1);
        DUE.stuffs(x, 0, 1000, 99000, 0);
        DUE.heats(x, 0, 28125, 2784375 + 300 * 62500, 0);
        DUE.is("warmth(2, 1)", x.warmth(2, 1), 217);
    }

    private static void withoutTonsBurnIs0() {
        DUE.by("BURN: heat by tons (cut; without tons 0)");
        KilnLine x = burntIn3(10, 1332);
        x.step(0, 0, 9);
        int[] due = {0, 0, 0, 0, 0, KilnLine.NONE};
        for (int what = 0; what < due.length; what++) {
            DUE.is("out(" + what + ")", x.out(what), due[what]);
        }
        DUE.is("zone(3, 1)", x.zone(3, 1), 600);
    }

    private static void burnIsCut() {
        DUE.by("BURN: heat by tons (cut");
        // The HEAT, less its tenth, by 10 tons
        burnt(20, 9, 0, 0);
        burnt(22, 10, 1, 0);
        burnt(42, 19, 1, 0);
        burnt(44, 20, 2, 0);
    }

    private static void gradesBeginAt30And60() {
        DUE.by("GRADE: 2 with BURN 60 and more, 1 with 30 and more, else 0");
        burnt(0, 0, 0, 0);
        burnt(664, 299, 29, 0);
        burnt(666, 300, 30, 1);
        burnt(1330, 599, 59, 1);
        burnt(1332, 600, 60, 2);
        burnt(4000, 1800, 180, 2);
    }

    private static void burnt(int fuel, int heat, int burn, int grade) {
        KilnLine x = burntIn3(10, fuel);
        DUE.is("step(0, 0, 100)", x.step(0, 0, 100), grade == 0 ? 3 : 0);
        int[] due = {10, heat, burn, grade};
        for (int what = 0; what < due.length; what++) {
            DUE.is("out(" + what + "), heat " + heat, x.out(what), due[what]);
        }
        for (int s = 0; s <= 2; s++) {
            DUE.is("silo(" + s + ", 0)", x.silo(s, 0), s == grade ? 10 : 0);
            DUE.is("silo(" + s + ", 1)", x.silo(s, 1), s == grade ? 1 : 0);
        }
    }

    private static void noLotWithoutTons() {
        DUE.by("If tons came out, a LOT comes behind those in SILO GRADE");
        KilnLine x = tonsIn(3, 10);
        x.step(0, 0, 9);
        DUE.is("silo(0, 1): no tons", x.silo(0, 1), 0);
        x.step(0, 0, 10);
        DUE.is("silo(0, 1): one ton", x.silo(0, 1), 1);
        DUE.is("silo(0, 0)", x.silo(0, 0), 1);
        x.step(0, 0, 0);
        DUE.is("silo(0, 1): no more", x.silo(0, 1), 1);
        DUE.is("bag(0, 1)", x.bag(0, 1), 1);
        DUE.is("lot(0, 0)", x.lot(0, 0), 5);
    }

    /** One ton in a ZONE with 200 of HEAT, and with 201. */
    private static void cause1IsAbove200ATon() {
        DUE.by("1: a ZONE has more than 200 HEAT a ton");
        hot(tonsIn(0, 1), 2134, 0, 200, 4);
        hot(tonsIn(0, 1), 2142, 0, 201, 1);
        hot(tonsIn(1, 1), 1606, 1, 200, 4);
        hot(tonsIn(1, 1), 1607, 1, 201, 1);
        hot(tonsIn(2, 1), 401, 2, 200, 0);
        hot(tonsIn(2, 1), 402, 2, 201, 1);
        // Of 10 tons in ZONE 3
        caused(burntIn3(10, 4000), 0, KilnLine.NONE);
        caused(burntIn3(10, 4002), 1, 3);
        DUE.is("count(4)", burntIn3(10, 4000).count(4), 0);
        DUE.is("count(4)", burntIn3(10, 4002).count(4), 1);
    }

    private static void hot(KilnLine x, int fuel, int zone, int heat, int cause) {
        DUE.is("step(0, " + fuel + ", 0)", x.step(0, fuel, 0), cause);
        DUE.is("zone(" + zone + ", 1)", x.zone(zone, 1), heat);
        caused(x, cause, cause == 0 ? KilnLine.NONE : cause == 4 ? 2 : zone);
        DUE.is("count(4)", x.count(4), cause == 1 ? 1 : 0);
    }

    private static void cause1NeedsStuff() {
        DUE.by("HEAT above 200 times its STUFF, STUFF above 0");
        KilnLine x = NEW.taken("step(0, 100000, 0)", y -> y.step(0, 100000, 0), 4);
        DUE.is("step(0, 0, 0): HEAT, but no STUFF", x.step(0, 0, 0), 0);
        caused(x, 0, KilnLine.NONE);
        DUE.is("count(4)", x.count(4), 0);
        DUE.is("step(1, 0, 0)", x.step(1, 0, 0), 1);
        caused(x, 1, 0);
    }

    private static void cause2IsAbove2000() {
        DUE.by("2: a ZONE has more than 2000 STUFF");
        for (int more = 0; more <= 1; more++) {
            KilnLine x = new KilnLine();
            x.step(1000, 0, 0);
            x.step(1000, 0, 0);
            for (int zone = 0; zone <= 3; zone++) {
                DUE.is("step", x.step(zone == 0 ? more : 0, 0, zone == 0 ? 0 : 100), 2 * more);
                caused(x, 2 * more, more == 0 ? KilnLine.NONE : zone);
                DUE.is("zone(" + zone + ", 0)", x.zone(zone, 0), 2000 + more);
                DUE.is("count(4)", x.count(4), more);
            }
        }
    }

    private static void cause3IsOfTons() {
        DUE.by("3: tons of GRADE 0 came out");
        KilnLine x = tonsIn(3, 10);
        DUE.is("step(0, 0, 9): none", x.step(0, 0, 9), 0);
        caused(x, 0, KilnLine.NONE);
        DUE.is("step(0, 0, 10): one", x.step(0, 0, 10), 3);
        caused(x, 3, 3);
    }

    private static void cause3IsOfGrade0() {
        DUE.by("3: tons of GRADE 0 came out");
        KilnLine x = burntIn3(10, 664);
        DUE.is("step(0, 0, 100): BURN 29", x.step(0, 0, 100), 3);
        caused(x, 3, 3);
        KilnLine y = burntIn3(10, 666);
        DUE.is("step(0, 0, 100): BURN 30", y.step(0, 0, 100), 0);
        caused(y, 0, KilnLine.NONE);
    }

    private static void cause4IsOfFuel() {
        DUE.by("4: Q (as it counts) is above 0 and ZONE 2 has no STUFF");
        NEW.taken("step(0, 0, 0)", x -> x.step(0, 0, 0), 0);
        caused(NEW.taken("step(0, 1, 0)", x -> x.step(0, 1, 0), 4), 4, 2);
        // With fuel that does not count there is no CAUSE 4.
        caused(STOPPED.taken("step(999, 100000, 0)", x -> x.step(999, 100000, 0), 0), 0, KilnLine.NONE);
        // Gas that comes from ZONE 3 is no fuel.
        caused(burntIn3(10, 1332), 0, KilnLine.NONE);
        KilnLine y = burntIn3(10, 1332);
        DUE.is("step(0, 0, 0)", y.step(0, 0, 0), 0);
    }

    private static void cause4IsOfNoStuffBehindTheStep() {
        DUE.by("ZONE 2 has no STUFF (behind the STEP)");
        DUE.is("STUFF comes with this STEP", tonsIn(1, 1).step(0, 1, 100), 0);
        DUE.is("STUFF stays", tonsIn(2, 1).step(0, 1, 99), 0);
        DUE.is("STUFF goes with this STEP", tonsIn(2, 1).step(0, 1, 100), 4);
        DUE.is("STUFF is elsewhere", tonsIn(1, 1).step(0, 1, 99), 4);
    }

    private static void theLeastCauseIsTold() {
        DUE.by("The least one that holds behind a STEP is its CAUSE");
        KilnLine with2 = burntIn3(10, 8000);
        with2.step(1000, 0, 0);
        with2.step(1000, 0, 0);
        DUE.is("1 ahead of 2", with2.step(1000, 0, 0), 1);
        caused(with2, 1, 3);
        KilnLine with3 = tonsIn(3, 10);
        DUE.is("1 ahead of 3 and 4", with3.step(1, 2142, 100), 1);
        caused(with3, 1, 0);
        DUE.is("out(3)", with3.out(3), 0);
        caused(NEW.taken("1 ahead of 4", x -> x.step(1, 2142, 0), 1), 1, 0);
        KilnLine x = tonsIn(3, 10);
        x.step(1000, 0, 0);
        x.step(1000, 0, 0);
        DUE.is("2 ahead of 3 and 4", x.step(1000, 1, 10), 2);
        DUE.is("out(0)", x.out(0), 1);
        caused(x, 2, 0);
        KilnLine y = tonsIn(3, 10);
        DUE.is("3 ahead of 4", y.step(0, 1, 100), 3);
        caused(y, 3, 3);
    }

    private static void theLeastZoneIsTold() {
        DUE.by("with the least ZONE");
        KilnLine x = tonsIn(2, 1);
        DUE.is("step(0, 100000, 0)", x.step(0, 100000, 0), 1);
        caused(x, 1, 2);
        x.start();
        DUE.is("step(1, 0, 100): ZONES 0 and 3", x.step(1, 0, 100), 1);
        caused(x, 1, 0);
        DUE.is("step(1000, 0, 0): ZONE 3", x.step(1000, 0, 0), 1);
        caused(x, 1, 3);
        KilnLine y = new KilnLine();
        for (int i = 0; i < 5; i++) {
            y.step(1000, 0, 0);
        }
        DUE.is("step(0, 0, 50): ZONES 0 and 1", y.step(0, 0, 50), 2);
        DUE.stuffs(y, 2500, 2500, 0, 0);
        caused(y, 2, 0);
        DUE.is("step(0, 0, 100): ZONES 1 and 2", y.step(0, 0, 100), 2);
        caused(y, 2, 1);
    }

    private static void causes1And2Stop() {
        DUE.by("With 1 and 2 THE KILN is STOPPED, till it is started");
        KilnLine x = stopped();
        DUE.is("count(4) behind CAUSE 1", x.count(4), 1);
        DUE.is("step(999, 0, 0): no CAUSE", x.step(999, 0, 0), 0);
        DUE.is("count(4)", x.count(4), 1);
        DUE.is("start()", x.start(), 1);
        DUE.is("count(4)", x.count(4), 0);
        x.step(1000, 0, 0);
        DUE.is("count(4): 2000 tons", x.count(4), 0);
        DUE.is("step(1, 0, 0)", x.step(1, 0, 0), 2);
        DUE.is("count(4) behind CAUSE 2", x.count(4), 1);
        DUE.is("start()", x.start(), 1);
        DUE.is("step(0, 0, 0): it is so still", x.step(0, 0, 0), 2);
        DUE.is("count(4)", x.count(4), 1);
    }

    private static void causes3And4DoNotStop() {
        DUE.by("With 1 and 2 THE KILN is STOPPED");
        KilnLine x = tonsIn(3, 10);
        DUE.is("step(0, 0, 100)", x.step(0, 0, 100), 3);
        DUE.is("count(4)", x.count(4), 0);
        DUE.is("step(0, 1, 0)", x.step(0, 1, 0), 4);
        DUE.is("count(4)", x.count(4), 0);
        DUE.is("start()", x.start(), 0);
    }

    private static void stepsAre500AtMost() {
        DUE.by("FULL: 500 STEPS");
        new Bounds(DUE, () -> afterSteps(499, 3, 0)).taken("the 500th", x -> x.step(3, 0, 100), 3);
        // Nothing is promised behind 512 calls: 12 are left.
        KilnLine x = afterSteps(500, 3, 0);
        long before = x.digest();
        DUE.is("the 501st", x.step(0, 0, 0), KilnLine.FULL);
        DUE.is("the 501st", x.step(1000, 100000, 100), KilnLine.FULL);
        DUE.is("digest()", x.digest(), before);
        DUE.is("count(2)", x.count(2), 500);
        DUE.is("out(0)", x.out(0), 3);
        DUE.is("out(4)", x.out(4), 3);
        DUE.is("first()", x.first(), 4);
        DUE.is("silo(0, 1)", x.silo(0, 1), 496);
        DUE.is("finding()", x.finding(), 0);
    }

    private static void badIsAheadOfFull() {
        DUE.by("in this order: BAD -1, FULL -2");
        KilnLine x = afterSteps(500, 0, 0);
        int[][] bad = {{-1, 0, 0}, {1001, 0, 0}, {0, -1, 0}, {0, 100001, 0}, {0, 0, -1}, {0, 0, 101}};
        for (int[] b : bad) {
            DUE.is("step(" + b[0] + ", " + b[1] + ", " + b[2] + ")", x.step(b[0], b[1], b[2]), KilnLine.BAD);
        }
        DUE.is("step(0, 0, 0)", x.step(0, 0, 0), KilnLine.FULL);
    }

    private static void startAnswersWhetherItWas() {
        DUE.by("THE KILN is STOPPED no more: 1 if it was, else 0");
        NEW.unchanged("start()", KilnLine::start, 0);
        BUSY.unchanged("start()", KilnLine::start, 0);
        KilnLine x = STOPPED.taken("start()", KilnLine::start, 1);
        DUE.is("start() again", x.start(), 0);
    }

    private static void warmthIsOfAZoneAndAKind() {
        DUE.by("HEAT a ton (cut) of a ZONE that IS of a KIND (each is a ZONE). BAD: also the KIND");
        BUSY.range("warmth(%d, 0)", (x, z) -> x.warmth(z, 0), 0, 1, 3, 42);
        BUSY.range("warmth(3, %d)", (x, kind) -> x.warmth(3, kind), 0, 42, 2, 42);
        // BAD is ahead of UNLIKE and of NOUGHT.
        NEW.refused("warmth(4, 1)", x -> x.warmth(4, 1), KilnLine.BAD);
        NEW.refused("warmth(-1, 2)", x -> x.warmth(-1, 2), KilnLine.BAD);
        NEW.refused("warmth(0, 3)", x -> x.warmth(0, 3), KilnLine.BAD);
        NEW.refused("warmth(0, -1)", x -> x.warmth(0, -1), KilnLine.BAD);
    }

    private static void warmthOfAnotherKindIsUnlike() {
        DUE.by("of a ZONE that IS of a KIND (each is a ZONE) .. UNLIKE");
        int[] due = {1, 4, 12, 42};
        for (int z = 0; z <= 3; z++) {
            for (int kind = 0; kind <= 2; kind++) {
                int zone = z;
                int of = kind;
                String call = "warmth(" + z + ", " + kind + ")";
                if (kind == 0 || kind == KINDS[z]) {
                    BUSY.taken(call, x -> x.warmth(zone, of), due[z]);
                } else {
                    BUSY.found(call, x -> x.warmth(zone, of), Bounds.UNLIKE);
                    NEW.found(call + ": ahead of NOUGHT", x -> x.warmth(zone, of), Bounds.UNLIKE);
                }
            }
        }
    }

    private static void warmthWithoutStuffIsNought() {
        DUE.by("NOUGHT: it has no STUFF");
        for (int z = 0; z <= 3; z++) {
            int zone = z;
            NEW.found("warmth(" + z + ", 0)", x -> x.warmth(zone, 0), Bounds.NOUGHT);
            NEW.found("warmth(" + z + ", its KIND)", x -> x.warmth(zone, KINDS[zone]), Bounds.NOUGHT);
            DUE.is("warmth of one ton", tonsIn(z, 1).warmth(z, 0), 0);
        }
        STOPPED.found("warmth(2, 1): HEAT, but no STUFF", x -> x.warmth(2, 1), Bounds.NOUGHT);
    }

    private static void warmthIsCut() {
        DUE.by("HEAT a ton (cut)");
        int[][] fuels = {{96, 9, 0}, {106, 10, 1}, {202, 19, 1}, {213, 20, 2}};
        for (int[] f : fuels) {
            KilnLine x = tonsIn(0, 10);
            x.step(0, f[0], 0);
            DUE.is("zone(0, 1)", x.zone(0, 1), f[1]);
            DUE.is("warmth(0, 0)", x.warmth(0, 0), f[2]);
        }
    }

    private static void outIsNoneAheadOfTheFirstStep() {
        DUE.by("NONE: there was none. BAD");
        NEW.range("out(%d)", KilnLine::out, 0, KilnLine.NONE, 6, KilnLine.NONE);
        KilnLine x = new KilnLine();
        x.step(0, 0, 101);
        for (int what = 0; what <= 6; what++) {
            DUE.is("out(" + what + ") behind a refused one", x.out(what), KilnLine.NONE);
        }
        int[] due = {0, 0, 0, 0, 0, KilnLine.NONE, 0};
        KilnLine y = afterSteps(1, 0, 0);
        for (int what = 0; what <= 6; what++) {
            DUE.is("out(" + what + ") behind one", y.out(what), due[what]);
        }
    }

    private static void outTellsOfSevenNumbers() {
        DUE.by("Of the latest STEP: 0 tons OUT .. 5 its ZONE (NONE), 6 what went to THE STACK");
        BUSY.range("out(%d)", KilnLine::out, 0, 1, 6, 5);
        int[] due = {1, 48, 48, 1, 0, KilnLine.NONE, 5};
        for (int what = 0; what <= 6; what++) {
            int number = what;
            BUSY.taken("out(" + what + ")", x -> x.out(number), due[number]);
        }
    }

    private static void sumTellsOfFiveNumbers() {
        DUE.by("In all: 0 feed, 1 fuel (as it counted), 2 tons OUT, 3 heat OUT, 4 THE STACK, told by asked(): 1. BAD");
        BUSY.range("sum(%d)", KilnLine::sum, 0, 1, 4, 1);
        long[] due = {72, 1332, 20, 456, 408};
        for (int what = 0; what <= 4; what++) {
            int number = what;
            DUE.is("asked() of " + what, BUSY.taken("sum", x -> x.sum(number), 1).asked(), due[what]);
        }
    }

    private static void sumsOfNothing() {
        DUE.by("In all: 0 feed ..");
        for (int what = 0; what <= 4; what++) {
            int number = what;
            DUE.is("asked() of " + what, NEW.taken("sum", x -> x.sum(number), 1).asked(), 0);
        }
    }

    private static void sumsOfAllSteps() {
        DUE.by("In all: 0 feed, 1 fuel (as it counted), 2 tons OUT, 3 heat OUT, 4 THE STACK");
        KilnLine fed = afterSteps(500, 1000, 0);
        long[] ofFeed = {500000, 0, 496000, 0, 0};
        for (int what : new int[] {0, 1, 2, 4}) {
            DUE.is("sum(" + what + ")", fed.sum(what), 1);
            DUE.is("asked()", fed.asked(), ofFeed[what]);
        }
        DUE.is("silo(0, 0)", fed.silo(0, 0), 496000);
        KilnLine burning = afterSteps(500, 0, 100000);
        DUE.is("sum(1)", burning.sum(1), 1);
        DUE.is("asked()", burning.asked(), 50000000);
        DUE.is("sum(4)", burning.sum(4), 1);
        DUE.is("asked()", burning.asked(), 500 * 28125);
        DUE.heats(burning, 500 * 9375, 500 * 12500, 500 * 50000, 0);
        DUE.is("out(6)", burning.out(6), 28125);
    }

    private static void firstIsNoneOrOfAnyStep() {
        DUE.by("The first STEP that had a CAUSE since the beginning .. NONE");
        NEW.unchanged("first()", KilnLine::first, KilnLine.NONE);
        BUSY.taken("first()", KilnLine::first, 4);
        STOPPED.taken("first()", KilnLine::first, 0);
        KilnLine x = afterSteps(499, 0, 0);
        DUE.is("first() of none", x.first(), KilnLine.NONE);
        x.step(0, 1, 0);
        DUE.is("first() of the last STEP", x.first(), 499);
        KilnLine y = afterSteps(3, 0, 1);
        DUE.is("first(): not the latest", y.first(), 0);
    }

    private static void firstIsSinceTheLatestStart() {
        DUE.by("or since the latest start() that answered 1; NONE");
        KilnLine x = BUSY.taken("start(): it was not STOPPED", KilnLine::start, 0);
        DUE.is("first() stays", x.first(), 4);
        KilnLine y = STOPPED.taken("start()", KilnLine::start, 1);
        DUE.is("first()", y.first(), KilnLine.NONE);
        DUE.is("step(999, 0, 0): no CAUSE", y.step(999, 0, 0), 0);
        DUE.is("first()", y.first(), KilnLine.NONE);
        DUE.is("step(0, 1, 0)", y.step(0, 1, 0), 4);
        DUE.is("first()", y.first(), 2);
        DUE.is("start()", y.start(), 0);
        DUE.is("first() stays", y.first(), 2);
    }
}
