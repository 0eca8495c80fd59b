import java.util.Random;

/** Promises 28 to 33: the plan. */
public final class PlanTest {
    private static final Due DUE = new Due("PlanTest");
    private static final int NOTHING = 1, BEYOND = 2, SIZE = 5;

    public static void main(String[] args) {
        dayLaysARow();
        priceSets();
        tearTakesTheRow();
        copyCopiesAsIfTakenAhead();
        copyRefusesInOrder();
        needSets();
        planRefuses();
        planHasTheLeastPrice();
        planHasTheFewestHours();
        planHasTheLeastBits();
        planMeetsEachNeed();
        plansAreTheBestOfAll();
        DUE.end();
    }

    private static void dayLaysARow() {
        KilnLine x = new KilnLine();
        DUE.is("day(-1)", x.day(-1), KilnLine.BAD);
        DUE.is("day(7)", x.day(7), KilnLine.BAD);
        DUE.is("count(3)", x.count(3), 0);
        for (int d = 0; d <= 6; d++) {
            DUE.is("day(d)", x.day(d), 0);
            DUE.is("count(3)", x.count(3), d + 1);
        }
        x.price(6, 23, 1000);
        x.price(5, 23, 999);
        DUE.is("day(6) again", x.day(6), 1);
        DUE.is("count(3)", x.count(3), 7);
        DUE.is("price(6, 23, 0): all prices 0", x.price(6, 23, 0), 0);
        DUE.is("price(5, 23, 0): not of the others", x.price(5, 23, 0), 999);
    }

    private static void priceSets() {
        KilnLine x = new KilnLine();
        found(x, x.price(0, 0, 0), NOTHING);
        found(x, x.price(0, 24, 0), NOTHING);
        x.day(0);
        DUE.is("price(0, 0, 1000)", x.price(0, 0, 1000), 0);
        DUE.is("price(0, 0, 5)", x.price(0, 0, 5), 1000);
        DUE.is("price(0, 23, 7)", x.price(0, 23, 7), 0);
        DUE.is("price(0, 23, 0)", x.price(0, 23, 0), 7);
        found(x, x.price(0, 24, 1), BEYOND);
        found(x, x.price(0, -1, 1), BEYOND);
        found(x, x.price(0, Integer.MIN_VALUE, 1), BEYOND);
        found(x, x.price(1, 0, 1), NOTHING);
        DUE.is("price(-1, 0, 0)", x.price(-1, 0, 0), KilnLine.BAD);
        DUE.is("price(7, 0, 0)", x.price(7, 0, 0), KilnLine.BAD);
        DUE.is("price(0, 0, -1)", x.price(0, 0, -1), KilnLine.BAD);
        DUE.is("price(0, 0, 1001)", x.price(0, 0, 1001), KilnLine.BAD);
        DUE.is("price(1, 0, -1): BAD ahead of NOTHING", x.price(1, 0, -1), KilnLine.BAD);
        DUE.is("price(0, 24, -1): BAD ahead of BEYOND", x.price(0, 24, -1), KilnLine.BAD);
        DUE.is("finding() stays", x.finding(), NOTHING);
        DUE.is("price(0, 0, 5)", x.price(0, 0, 5), 5);
    }

    private static void tearTakesTheRow() {
        KilnLine x = new KilnLine();
        DUE.is("tear(-1)", x.tear(-1), KilnLine.BAD);
        DUE.is("tear(7)", x.tear(7), KilnLine.BAD);
        found(x, x.tear(6), NOTHING);
        x.day(6);
        x.day(2);
        x.price(6, 3, 30);
        DUE.is("tear(6)", x.tear(6), 1);
        DUE.is("count(3)", x.count(3), 1);
        found(x, x.tear(6), NOTHING);
        found(x, x.price(6, 3, 0), NOTHING);
        found(x, x.plan(6, 1), NOTHING);
        DUE.is("count(3)", x.count(3), 1);
        DUE.is("day(6)", x.day(6), 0);
        DUE.is("price(6, 3, 0)", x.price(6, 3, 0), 0);
    }

    private static void copyCopiesAsIfTakenAhead() {
        copied(0, 0, 1, 0, 24);
        copied(0, 5, 1, 9, 15);
        copied(0, 23, 1, 0, 1);
        copied(0, 0, 1, 23, 1);
        copied(1, 3, 0, 20, 4);
        copied(0, 0, 0, 1, 23);
        copied(0, 1, 0, 0, 23);
        copied(0, 4, 0, 4, 20);
        copied(0, 10, 0, 12, 6);
        copied(0, 7, 1, 7, 0);
        copied(0, 24, 1, 24, 0);
        copied(0, 24, 0, 0, 0);
        KilnLine x = new KilnLine();
        x.day(6);
        x.price(6, 2, 22);
        DUE.is("copy(6, 2, 6, 3, 1)", x.copy(6, 2, 6, 3, 1), 1);
        DUE.is("price(6, 3, 0)", x.price(6, 3, 0), 22);
    }

    private static void copied(int d, int i, int e, int j, int n) {
        KilnLine x = new KilnLine();
        int[][] due = new int[2][24];
        for (int day = 0; day < 2; day++) {
            x.day(day);
            for (int h = 0; h < 24; h++) {
                due[day][h] = 100 * (day + 1) + h;
                x.price(day, h, due[day][h]);
            }
        }
        int[] taken = new int[n];
        for (int k = 0; k < n; k++) {
            taken[k] = due[d][i + k];
        }
        for (int k = 0; k < n; k++) {
            due[e][j + k] = taken[k];
        }
        String call = "copy(" + d + ", " + i + ", " + e + ", " + j + ", " + n + ")";
        DUE.is(call, x.copy(d, i, e, j, n), 1);
        for (int day = 0; day < 2; day++) {
            for (int h = 0; h < 24; h++) {
                DUE.is(call + ", then price", x.price(day, h, 0), due[day][h]);
            }
        }
        DUE.is("finding()", x.finding(), 0);
    }

    private static void copyRefusesInOrder() {
        KilnLine x = new KilnLine();
        x.day(0);
        x.day(1);
        x.price(0, 0, 9);
        long before = x.digest();
        DUE.is("copy(-1, ..)", x.copy(-1, 0, 0, 0, -1), KilnLine.BAD);
        DUE.is("copy(7, ..)", x.copy(7, 0, 0, 0, 1), KilnLine.BAD);
        DUE.is("copy(.., -1, ..)", x.copy(0, 0, -1, 0, 1), KilnLine.BAD);
        DUE.is("copy(.., 7, ..)", x.copy(0, 0, 7, 0, -1), KilnLine.BAD);
        DUE.is("finding()", x.finding(), 0);
        found(x, x.copy(2, 0, 3, 99, -1), SIZE);
        found(x, x.copy(0, 0, 1, 0, Integer.MIN_VALUE), SIZE);
        found(x, x.copy(2, 99, 0, 0, 1), NOTHING);
        found(x, x.copy(0, 0, 2, 99, 1), NOTHING);
        found(x, x.copy(2, 0, 2, 0, 0), NOTHING);
        int[][] beyond = {
            {-1, 0, 1}, {0, -1, 1}, {0, 1, 24}, {1, 0, 24}, {0, 0, 25}, {24, 0, 1}, {0, 24, 1}, {25, 0, 0},
            {0, 25, 0}, {-1, 0, 0}, {0, -1, 0}, {-5, 0, 10}, {0, -5, 10}, {1, 0, Integer.MAX_VALUE},
            {Integer.MAX_VALUE, 0, 1}, {0, Integer.MAX_VALUE, Integer.MAX_VALUE}, {Integer.MIN_VALUE, 0, Integer.MAX_VALUE},
        };
        for (int[] b : beyond) {
            found(x, x.copy(0, b[0], 1, b[1], b[2]), BEYOND);
        }
        DUE.is("findings(1)", x.findings(1), 3);
        DUE.is("findings(2)", x.findings(2), beyond.length);
        DUE.is("findings(5)", x.findings(5), 2);
        DUE.is("digest()", x.digest(), before);
    }

    private static void needSets() {
        KilnLine x = new KilnLine();
        DUE.is("need(0, 10000)", x.need(0, 10000), 0);
        DUE.is("need(0, 3)", x.need(0, 3), 10000);
        DUE.is("need(23, 4)", x.need(23, 4), 0);
        DUE.is("need(23, 0)", x.need(23, 0), 4);
        DUE.is("need(0, 0)", x.need(0, 0), 3);
        DUE.is("need(-1, 0)", x.need(-1, 0), KilnLine.BAD);
        DUE.is("need(24, 0)", x.need(24, 0), KilnLine.BAD);
        DUE.is("need(0, -1)", x.need(0, -1), KilnLine.BAD);
        DUE.is("need(0, 10001)", x.need(0, 10001), KilnLine.BAD);
        DUE.is("need(0, 0)", x.need(0, 0), 0);
        // NEEDS are for all DAYS.
        x.need(0, 1);
        x.day(2);
        x.day(5);
        DUE.is("plan(2, 1)", x.plan(2, 1), 1);
        DUE.is("plan(5, 1)", x.plan(5, 1), 1);
    }

    private static void planRefuses() {
        KilnLine x = new KilnLine();
        DUE.is("plan(-1, 1)", x.plan(-1, 1), KilnLine.BAD);
        DUE.is("plan(7, 1)", x.plan(7, 1), KilnLine.BAD);
        DUE.is("plan(0, 0): BAD ahead of NOTHING", x.plan(0, 0), KilnLine.BAD);
        DUE.is("plan(0, 1001)", x.plan(0, 1001), KilnLine.BAD);
        found(x, x.plan(0, 1), NOTHING);
        x.need(22, 10000);
        found(x, x.plan(0, 1), NOTHING);
        x.day(0);
        x.price(0, 0, 77);
        x.need(0, 1);
        x.need(22, 0);
        DUE.is("plan(0, 1)", x.plan(0, 1), 1);
        DUE.is("asked()", x.asked(), 77);
        x.need(0, 2);
        DUE.is("plan(0, 1)", x.plan(0, 1), KilnLine.NONE);
        DUE.is("asked() stays", x.asked(), 77);
        DUE.is("plan(0, 1001)", x.plan(0, 1001), KilnLine.BAD);
        DUE.is("plan(0, 1000)", x.plan(0, 1000), 1);
        DUE.is("findings(1)", x.findings(1), 2);
    }

    private static void planHasTheLeastPrice() {
        KilnLine x = new KilnLine();
        x.day(3);
        for (int h = 0; h < 24; h++) {
            x.price(3, h, 1000 - h);
        }
        DUE.is("plan(3, 1) without NEEDS", x.plan(3, 1), 0);
        DUE.is("asked()", x.asked(), 0);
        x.need(23, 3);
        DUE.is("plan(3, 1)", x.plan(3, 1), 7 << 21);
        DUE.is("asked()", x.asked(), 977 + 978 + 979);
        x.need(10, 1);
        DUE.is("plan(3, 1)", x.plan(3, 1), 3 << 22 | 1 << 10);
        DUE.is("asked()", x.asked(), 977 + 978 + 990);
        x.need(23, 24);
        DUE.is("plan(3, 1): all HOURS", x.plan(3, 1), (1 << 24) - 1);
        DUE.is("asked()", x.asked(), 24000 - 276);
        x.need(23, 25);
        DUE.is("plan(3, 1)", x.plan(3, 1), KilnLine.NONE);
        DUE.is("plan(3, 2): 13 HOURS, one of them by the end of HOUR 10", x.plan(3, 2), 0xfff000 | 1 << 10);
    }

    private static void planHasTheFewestHours() {
        KilnLine x = new KilnLine();
        x.day(0);
        for (int h = 0; h < 24; h++) {
            x.price(0, h, 10);
        }
        x.price(0, 0, 0);
        x.price(0, 1, 5);
        x.need(1, 1);
        DUE.is("plan(0, 1)", x.plan(0, 1), 1);
        DUE.is("asked()", x.asked(), 0);
        x.price(0, 1, 0);
        x.price(0, 2, 0);
        x.price(0, 3, 0);
        x.need(3, 2);
        DUE.is("plan(0, 1): free HOURS are not taken for nothing", x.plan(0, 1), 3);
        x.need(1, 0);
        DUE.is("plan(0, 2)", x.plan(0, 2), 1);
        DUE.is("asked()", x.asked(), 0);
    }

    private static void planHasTheLeastBits() {
        KilnLine x = new KilnLine();
        x.day(0);
        x.need(23, 5);
        DUE.is("plan(0, 1): all alike", x.plan(0, 1), 31);
        for (int h = 0; h < 24; h++) {
            x.price(0, h, 4);
        }
        x.price(0, 20, 3);
        DUE.is("plan(0, 1)", x.plan(0, 1), 1 << 20 | 15);
        DUE.is("asked()", x.asked(), 19);
        // One of HOURS 0 and 1, and one of the cheaper HOURS 22 and 23
        x.need(1, 1);
        x.need(23, 2);
        x.price(0, 20, 4);
        x.price(0, 22, 3);
        x.price(0, 23, 3);
        DUE.is("plan(0, 1)", x.plan(0, 1), 1 << 22 | 1);
        DUE.is("asked()", x.asked(), 7);
    }

    private static void planMeetsEachNeed() {
        KilnLine x = new KilnLine();
        x.day(0);
        for (int h = 0; h < 24; h++) {
            x.price(0, h, 24 - h);
        }
        // A NEED may be less than the one ahead of it: then it asks for nothing more.
        x.need(5, 20);
        x.need(9, 10);
        DUE.is("plan(0, 10)", x.plan(0, 10), 3 << 4);
        x.need(23, 21);
        DUE.is("plan(0, 10): in part", x.plan(0, 10), 3 << 4 | 1 << 23);
        x.need(23, 20);
        DUE.is("plan(0, 10): just so many", x.plan(0, 10), 3 << 4);
        DUE.is("plan(0, 9)", x.plan(0, 9), 7 << 3);
        DUE.is("plan(0, 20)", x.plan(0, 20), 1 << 5);
        DUE.is("plan(0, 3)", x.plan(0, 3), KilnLine.NONE);
        DUE.is("plan(0, 4)", x.plan(0, 4), 31 << 1);
    }

    private static void plansAreTheBestOfAll() {
        Random random = new Random(7);
        int none = 0;
        for (int round = 0; round < 200; round++) {
            int most = 1 + random.nextInt(6);
            int rate = 1 + random.nextInt(30);
            KilnLine x = new KilnLine();
            Search search = new Search(rate);
            x.day(4);
            for (int h = 0; h < 24; h++) {
                search.prices[h] = random.nextInt(round % 5 == 0 ? 1001 : most);
                x.price(4, h, search.prices[h]);
            }
            for (int k = random.nextInt(5); k >= 0; k--) {
                int h = random.nextInt(24);
                search.needs[h] = random.nextInt((h + 1) * rate + 2) / (1 + random.nextInt(2));
                x.need(h, search.needs[h]);
            }
            search.go(0, 0, 0, 0);
            long asked = x.asked();
            DUE.is("plan, round " + round, x.plan(4, rate), search.bits);
            DUE.is("asked, round " + round, x.asked(), search.bits == KilnLine.NONE ? asked : search.price);
            none += search.bits == KilnLine.NONE ? 1 : 0;
        }
        DUE.holds("the rounds had NONE, but not only", none > 0 && none < 100);
    }

    /** Looks at every PLAN there is, but for those that cost more than the best so far. */
    private static final class Search {
        private final int[] prices = new int[24];
        private final int[] needs = new int[24];
        private final int rate;
        private int bits = KilnLine.NONE;
        private int price;

        Search(int rate) {
            this.rate = rate;
        }

        void go(int h, int going, int cost, int hours) {
            if (bits != KilnLine.NONE && (cost > price || cost == price && hours > Integer.bitCount(bits))) {
                return;
            }
            if (h == 24) {
                boolean better = bits == KilnLine.NONE || cost < price || hours < Integer.bitCount(bits) || going < bits;
                bits = better ? going : bits;
                price = better ? cost : price;
                return;
            }
            if (hours * rate >= needs[h]) {
                go(h + 1, going, cost, hours);
            }
            if ((hours + 1) * rate >= needs[h]) {
                go(h + 1, going | 1 << h, cost + prices[h], hours + 1);
            }
        }
    }

    private static void found(KilnLine x, int answer, int finding) {
        DUE.is("a FINDING", answer, KilnLine.FINDING);
        DUE.is("finding()", x.finding(), finding);
    }
}
