import java.util.ArrayList;
import java.util.List;

/** A line in the midst of its work, and what a line answers from some point on. */
final class Busy {
    private Busy() {
    }

    /**
     * THE HEAP: 2 STROKES, on PLACE p 150 tons with 10 + 10 p of lime, but PLACE 4 is CUT.
     * THE MIX: 3 HOURS, SAMPLES to come in HOURS 3 and 4, THE NUMBER 10 by 21, SHARES 400, 300, 200, 100.
     * THE KILN: 11 STEPS, STUFF 10, 23, 15, 4 with HEAT 18, 100, 182, 168, the first CAUSE in STEP 4.
     * SILOS: 6, 3, 5 tons in 1, 2, 1 LOTS; a BAG of LOTS 4 and 5.
     * THE PLAN: ROWS of DAYS 0 and 6, NEEDS of 20 by HOUR 2 and 40 by HOUR 23; asked() tells 8.
     * FINDINGS: one of NOTHING, then one of UNLIKE.
     */
    static KilnLine line() {
        KilnLine x = new KilnLine();
        x.stroke(100, 10, 5);
        x.stroke(50, 45, -5);
        x.cut(4);
        mixThreeHours(x);
        burnElevenSteps(x);
        x.bag(0, 6);
        x.tear(3);
        x.warmth(0, 1);
        planTwoDays(x);
        return x;
    }

    private static void mixThreeHours(KilnLine x) {
        x.stock(0, 900, 50, 25);
        x.stock(1, 100, 500, 300);
        x.share(400, 300, 200);
        x.aim(2, 1);
        x.rule(3, 7);
        x.hour(false);
        x.rule(2, 9);
        x.hour(true);
        x.hour(false);
        x.number();
    }

    private static void burnElevenSteps(KilnLine x) {
        int[] feeds = {5, 7, 0, 10, 0, 0, 0, 20, 30, 0, 0};
        for (int i = 0; i < feeds.length; i++) {
            boolean burns = i == 6;
            x.step(feeds[i], burns ? 1332 : 0, burns ? 0 : i < 8 ? 100 : 50);
        }
    }

    private static void planTwoDays(KilnLine x) {
        x.day(0);
        x.day(6);
        x.price(0, 0, 9);
        x.price(0, 1, 3);
        x.price(0, 2, 5);
        x.price(0, 23, 1);
        x.price(6, 0, 1000);
        x.price(6, 23, 7);
        x.need(2, 20);
        x.need(23, 40);
        x.plan(0, 10);
    }

    /** All FINDINGS that were answered: the latest, then how often each. */
    static List<Integer> findings(KilnLine x) {
        return List.of(x.finding(), x.findings(1), x.findings(2), x.findings(3), x.findings(4), x.findings(5));
    }

    /**
     * What is told now, and what some 120 calls more answer: in these shows what is not told,
     * such as THE AIM, DELAY, SAMPLES to come and what is left of each LOT. FINDINGS are left out.
     */
    static List<Long> later(KilnLine x) {
        List<Long> all = new ArrayList<>();
        addTold(all, x);
        addHours(all, x);
        addSteps(all, x);
        addBags(all, x);
        addPlans(all, x);
        add(all, x.stroke(100, 0, 9), x.place(0, 1), x.strokeSpread(2), x.cut(5), x.asked());
        add(all, x.number(), x.upper(), x.lower(), x.digest(), x.clear(), x.digest());
        return all;
    }

    private static void addTold(List<Long> all, KilnLine x) {
        add(all, x.digest(), x.upper(), x.lower(), x.asked(), x.read(), x.passed(), x.first(), x.spread());
        for (int what = 0; what <= 6; what++) {
            add(all, x.out(what));
        }
        for (int i = 0; i < 3; i++) {
            add(all, x.lot(i, 0), x.lot(i, 1), x.strokeSpread(i));
        }
        for (int what = 0; what <= 4; what++) {
            add(all, x.sum(what), x.asked());
        }
    }

    private static void addHours(List<Long> all, KilnLine x) {
        for (int i = 0; i < 7; i++) {
            add(all, x.hour(false), x.read(), x.passed(), x.shareOf(0));
        }
    }

    private static void addSteps(List<Long> all, KilnLine x) {
        for (int i = 0; i < 3; i++) {
            add(all, x.step(50, 9000, 40), x.out(0), x.out(1), x.out(5), x.out(6), x.first());
        }
        add(all, x.start(), x.first());
    }

    private static void addBags(List<Long> all, KilnLine x) {
        for (int s = 0; s < 3; s++) {
            add(all, x.bag(s, 3), x.lot(0, 0), x.lot(0, 1), x.lot(1, 0), x.silo(s, 0), x.silo(s, 1));
        }
    }

    private static void addPlans(List<Long> all, KilnLine x) {
        add(all, x.plan(0, 10), x.asked(), x.plan(6, 10), x.asked(), x.plan(0, 6), x.asked());
    }

    private static void add(List<Long> all, long... numbers) {
        for (long v : numbers) {
            all.add(v);
        }
    }
}
