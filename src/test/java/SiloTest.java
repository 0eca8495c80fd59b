import java.util.List;
import java.util.Random;

/** Promises 25 to 27: silos. */
public final class SiloTest {
    private static final Due DUE = new Due("SiloTest");

    public static void main(String[] args) {
        bagTakesTheEldestFirst();
        bagRefuses();
        lotsStayTold();
        bagsMayBeLarge();
        lotsOfManySteps();
        bagsAreAsDrawnFromQueues();
        DUE.end();
    }

    /** Unburnt LOTS in SILO 0: STEP 4 5 tons, STEP 5 7 tons, STEP 7 11 tons, STEP 8 900 tons. */
    private static KilnLine withFourLots() {
        KilnLine x = new KilnLine();
        int[] feeds = {5, 7, 0, 11, 900, 0, 0, 0, 0};
        for (int feed : feeds) {
            x.step(feed, 0, 100);
        }
        return x;
    }

    private static void bagTakesTheEldestFirst() {
        KilnLine x = withFourLots();
        DUE.silo(x, 923, 4);
        DUE.is("bag(0, 5)", x.bag(0, 5), 1);
        DUE.lots(x, 4, 5);
        DUE.silo(x, 918, 3);
        DUE.is("bag(0, 8)", x.bag(0, 8), 2);
        DUE.lots(x, 5, 7, 7, 1);
        DUE.silo(x, 910, 2);
        DUE.is("bag(0, 3)", x.bag(0, 3), 1);
        DUE.lots(x, 7, 3);
        DUE.silo(x, 907, 2);
        DUE.is("bag(0, 907)", x.bag(0, 907), 2);
        DUE.lots(x, 7, 7, 8, 900);
        DUE.silo(x, 0, 0);
        DUE.is("bag(0, 1)", x.bag(0, 1), KilnLine.STATE);
        DUE.is("silo(1, 0)", x.silo(1, 0), 0);
        DUE.is("silo(2, 1)", x.silo(2, 1), 0);
    }

    private static void bagRefuses() {
        KilnLine x = withFourLots();
        DUE.is("bag(0, 924)", x.bag(0, 924), KilnLine.STATE);
        DUE.is("bag(1, 1)", x.bag(1, 1), KilnLine.STATE);
        DUE.is("bag(0, 0)", x.bag(0, 0), KilnLine.BAD);
        DUE.is("bag(0, -1)", x.bag(0, -1), KilnLine.BAD);
        DUE.is("bag(0, 10000)", x.bag(0, 10000), KilnLine.STATE);
        DUE.is("bag(0, 10001)", x.bag(0, 10001), KilnLine.BAD);
        DUE.is("bag(-1, 1)", x.bag(-1, 1), KilnLine.BAD);
        DUE.is("bag(3, 1)", x.bag(3, 1), KilnLine.BAD);
        DUE.is("silo(-1, 0)", x.silo(-1, 0), KilnLine.BAD);
        DUE.is("silo(3, 0)", x.silo(3, 0), KilnLine.BAD);
        DUE.is("silo(0, -1)", x.silo(0, -1), KilnLine.BAD);
        DUE.is("silo(0, 2)", x.silo(0, 2), KilnLine.BAD);
        DUE.is("lot(0, 0)", x.lot(0, 0), KilnLine.NONE);
        DUE.silo(x, 923, 4);
        DUE.is("finding()", x.finding(), 0);
    }

    private static void lotsStayTold() {
        KilnLine x = withFourLots();
        x.bag(0, 13);
        x.bag(0, 5000);
        x.bag(0, 0);
        DUE.lots(x, 4, 5, 5, 7, 7, 1);
        x.step(0, 0, 100);
        DUE.lots(x, 4, 5, 5, 7, 7, 1);
        DUE.is("lot(3, 0)", x.lot(3, 0), KilnLine.NONE);
        DUE.is("lot(3, 1)", x.lot(3, 1), KilnLine.NONE);
        DUE.is("lot(-1, 0)", x.lot(-1, 0), KilnLine.NONE);
        DUE.is("lot(500, 1)", x.lot(500, 1), KilnLine.NONE);
        DUE.is("lot(MIN, 0)", x.lot(Integer.MIN_VALUE, 0), KilnLine.NONE);
        DUE.is("lot(0, 2)", x.lot(0, 2), KilnLine.BAD);
        DUE.is("lot(0, -1)", x.lot(0, -1), KilnLine.BAD);
        DUE.is("lot(9, 2): BAD ahead of NONE", x.lot(9, 2), KilnLine.BAD);
        DUE.is("bag(0, 1)", x.bag(0, 1), 1);
        DUE.lots(x, 7, 1);
    }

    private static void bagsMayBeLarge() {
        KilnLine x = new KilnLine();
        for (int i = 0; i < 15; i++) {
            x.step(1000, 0, 100);
        }
        DUE.silo(x, 11000, 11);
        DUE.is("bag(0, 10001)", x.bag(0, 10001), KilnLine.BAD);
        DUE.is("bag(0, 10000)", x.bag(0, 10000), 10);
        DUE.silo(x, 1000, 1);
        DUE.is("lot(9, 0)", x.lot(9, 0), 13);
    }

    private static void lotsOfManySteps() {
        KilnLine x = new KilnLine();
        for (int i = 0; i < 500; i++) {
            x.step(2, 0, 100);
        }
        DUE.silo(x, 992, 496);
        DUE.is("bag(0, 991)", x.bag(0, 991), 496);
        DUE.is("lot(0, 0)", x.lot(0, 0), 4);
        DUE.is("lot(495, 0)", x.lot(495, 0), 499);
        DUE.is("lot(495, 1)", x.lot(495, 1), 1);
        DUE.silo(x, 1, 1);
    }

    /** Runs of any steps and BAGS, with LOTS in all SILOS. */
    private static void bagsAreAsDrawnFromQueues() {
        int[] bags = new int[3];
        for (int seed = 0; seed < 200; seed++) {
            Random random = new Random(seed);
            KilnLine x = new KilnLine();
            PlainSilos plain = new PlainSilos();
            // A STEP with its BAG takes 8 calls and two for each LOT: nothing is promised behind 512 calls.
            int calls = 0;
            for (int step = 0; calls < 450; step++) {
                x.start();
                x.step(random.nextInt(100), random.nextInt(4) == 0 ? random.nextInt(40000) : 0, 20 + random.nextInt(60));
                if (x.out(0) > 0) {
                    plain.store(x.out(3), step, x.out(0));
                }
                int s = random.nextInt(3);
                int lots = bagAndCompare(x, plain, s, 1 + random.nextInt(120));
                bags[s] += lots > 0 ? 1 : 0;
                calls += 9 + 2 * lots;
            }
        }
        for (int s = 0; s < 3; s++) {
            DUE.holds("BAGS of SILO " + s + " were filled", bags[s] > 10);
        }
    }

    /** Answers of how many LOTS the BAG is; 0, if it is refused. */
    private static int bagAndCompare(KilnLine x, PlainSilos plain, int s, int n) {
        DUE.is("silo(s, 0)", x.silo(s, 0), plain.tons(s));
        DUE.is("silo(s, 1)", x.silo(s, 1), plain.lots(s));
        if (plain.tons(s) < n) {
            DUE.is("bag(s, n)", x.bag(s, n), KilnLine.STATE);
            return 0;
        }
        List<int[]> taken = plain.bag(s, n);
        DUE.is("bag(s, n)", x.bag(s, n), taken.size());
        for (int i = 0; i < taken.size(); i++) {
            DUE.is("lot(i, 0)", x.lot(i, 0), taken.get(i)[0]);
            DUE.is("lot(i, 1)", x.lot(i, 1), taken.get(i)[1]);
        }
        DUE.is("lot(behind the last, 0)", x.lot(taken.size(), 0), KilnLine.NONE);
        return taken.size();
    }
}
