import java.util.Random;

/** Promises 8 to 17: the mix. */
public final class MixTest {
    private static final Due DUE = new Due("MixTest");
    private static final int[][] NOT_A_WHOLE = {
        {-1, 500, 500}, {500, -1, 500}, {500, 500, -1}, {1001, 0, 0}, {0, 1001, 0}, {0, 0, 1001},
        {1000, 0, 1}, {1000, 1, 0}, {334, 333, 334}, {1001, -1, 0}, {0, 1001, -1}, {-1, 0, 1001},
        {Integer.MAX_VALUE, Integer.MAX_VALUE, 2}, {Integer.MAX_VALUE, 1, 0}, {Integer.MIN_VALUE, 0, 0},
    };

    public static void main(String[] args) {
        stockHasParts();
        sharesAreAWhole();
        mixIsSharesTimesParts();
        numberIsInLowestTerms();
        numberOfNoughtIsAFinding();
        aimAndRuleHaveBounds();
        hourReadsTheYoungest();
        lostSamplesNeverCome();
        anElderSampleMayComeLater();
        hourShiftsByTheGain();
        aimAndGainAreAsTheyAreWhenRead();
        sampleIsOfItsOwnHour();
        hourIsFullAt200();
        runsAreAsReckonedPlainly();
        DUE.end();
    }

    private static void stockHasParts() {
        KilnLine x = new KilnLine();
        DUE.is("stock(2, 100, 200, 300)", x.stock(2, 100, 200, 300), 1);
        x.share(0, 0, 1000);
        DUE.is("mix(0)", x.mix(0), 100000);
        DUE.is("mix(1)", x.mix(1), 200000);
        DUE.is("mix(2)", x.mix(2), 300000);
        DUE.is("mix(3)", x.mix(3), 400000);
        long before = x.digest();
        DUE.is("stock(-1, 0, 0, 0)", x.stock(-1, 0, 0, 0), KilnLine.BAD);
        DUE.is("stock(4, 0, 0, 0)", x.stock(4, 0, 0, 0), KilnLine.BAD);
        for (int[] b : NOT_A_WHOLE) {
            DUE.is("stock(2, " + b[0] + ", " + b[1] + ", " + b[2] + ")", x.stock(2, b[0], b[1], b[2]), KilnLine.BAD);
        }
        DUE.is("digest()", x.digest(), before);
        DUE.is("stock(0, 0, 0, 0)", x.stock(0, 0, 0, 0), 1);
        DUE.is("stock(3, 1, 2, 997)", x.stock(3, 1, 2, 997), 1);
        x.share(0, 0, 0);
        DUE.is("mix(2)", x.mix(2), 997000);
        DUE.is("mix(3)", x.mix(3), 0);
        x.share(1000, 0, 0);
        DUE.is("mix(3)", x.mix(3), 1000000);
        DUE.is("stock(0, 0, 1000, 0)", x.stock(0, 0, 1000, 0), 1);
        DUE.is("mix(1)", x.mix(1), 1000000);
    }

    private static void sharesAreAWhole() {
        KilnLine x = new KilnLine();
        DUE.is("share(10, 20, 30)", x.share(10, 20, 30), 1);
        DUE.is("shareOf(0)", x.shareOf(0), 10);
        DUE.is("shareOf(1)", x.shareOf(1), 20);
        DUE.is("shareOf(2)", x.shareOf(2), 30);
        DUE.is("shareOf(3)", x.shareOf(3), 940);
        for (int[] b : NOT_A_WHOLE) {
            DUE.is("share(" + b[0] + ", " + b[1] + ", " + b[2] + ")", x.share(b[0], b[1], b[2]), KilnLine.BAD);
        }
        DUE.is("shareOf(3) stays", x.shareOf(3), 940);
        DUE.is("share(0, 0, 0)", x.share(0, 0, 0), 1);
        DUE.is("shareOf(3)", x.shareOf(3), 1000);
        DUE.is("share(333, 333, 334)", x.share(333, 333, 334), 1);
        DUE.is("shareOf(3)", x.shareOf(3), 0);
        DUE.is("shareOf(-1)", x.shareOf(-1), KilnLine.BAD);
        DUE.is("shareOf(4)", x.shareOf(4), KilnLine.BAD);
    }

    private static void mixIsSharesTimesParts() {
        KilnLine x = new KilnLine();
        x.stock(0, 900, 50, 20);
        x.stock(1, 10, 600, 300);
        x.stock(2, 0, 100, 800);
        x.stock(3, 5, 6, 7);
        x.share(700, 200, 60);
        DUE.is("mix(0)", x.mix(0), 700 * 900 + 200 * 10 + 60 * 0 + 40 * 5);
        DUE.is("mix(1)", x.mix(1), 700 * 50 + 200 * 600 + 60 * 100 + 40 * 6);
        DUE.is("mix(2)", x.mix(2), 700 * 20 + 200 * 300 + 60 * 800 + 40 * 7);
        DUE.is("mix(3)", x.mix(3), 700 * 30 + 200 * 90 + 60 * 100 + 40 * 982);
        DUE.is("mix(-1)", x.mix(-1), KilnLine.BAD);
        DUE.is("mix(4)", x.mix(4), KilnLine.BAD);
    }

    private static void numberIsInLowestTerms() {
        KilnLine x = new KilnLine();
        stockAll(x, 792, 9, 199);
        DUE.is("number()", x.number(), 1);
        DUE.is("upper()", x.upper(), 3);
        DUE.is("lower()", x.lower(), 1);
        stockAll(x, 0, 500, 500);
        DUE.is("number() without lime", x.number(), 1);
        DUE.is("upper()", x.upper(), 0);
        DUE.is("lower()", x.lower(), 1);
        // 10 times 500 by 7 times 100, 12 times 200, 28 times 200
        stockAll(x, 500, 200, 200);
        DUE.is("number()", x.number(), 1);
        DUE.is("upper()", x.upper(), 50);
        DUE.is("lower()", x.lower(), 87);
        stockAll(x, 999, 0, 0);
        DUE.is("number()", x.number(), 1);
        DUE.is("upper()", x.upper(), 9990);
        DUE.is("lower()", x.lower(), 7);
        DUE.is("asked()", x.asked(), 0);
    }

    private static void numberOfNoughtIsAFinding() {
        KilnLine x = new KilnLine();
        x.number();
        stockAll(x, 1000, 0, 0);
        DUE.is("number()", x.number(), KilnLine.FINDING);
        DUE.is("finding()", x.finding(), 4);
        DUE.is("findings(4)", x.findings(4), 1);
        DUE.is("upper() stays", x.upper(), 10);
        DUE.is("lower() stays", x.lower(), 47);
        // With NOUGHT an HOUR does nothing, and answers no FINDING.
        x.rule(0, 100);
        DUE.is("hour(false)", x.hour(false), 1);
        DUE.is("read()", x.read(), 0);
        DUE.is("shareOf(0)", x.shareOf(0), 250);
        DUE.is("findings(4)", x.findings(4), 1);
        // Only a STOCK with SHARES counts.
        x.share(0, 0, 0);
        x.stock(0, 0, 1000, 0);
        DUE.is("number()", x.number(), KilnLine.FINDING);
        DUE.is("findings(4)", x.findings(4), 2);
    }

    private static void aimAndRuleHaveBounds() {
        KilnLine x = new KilnLine();
        DUE.is("aim(1, 1)", x.aim(1, 1), 1);
        DUE.is("aim(1000, 1000)", x.aim(1000, 1000), 1);
        DUE.is("aim(0, 1)", x.aim(0, 1), KilnLine.BAD);
        DUE.is("aim(1001, 1)", x.aim(1001, 1), KilnLine.BAD);
        DUE.is("aim(1, 0)", x.aim(1, 0), KilnLine.BAD);
        DUE.is("aim(1, 1001)", x.aim(1, 1001), KilnLine.BAD);
        DUE.is("rule(0, 0)", x.rule(0, 0), 1);
        DUE.is("rule(5, 100)", x.rule(5, 100), 1);
        DUE.is("rule(-1, 0)", x.rule(-1, 0), KilnLine.BAD);
        DUE.is("rule(6, 0)", x.rule(6, 0), KilnLine.BAD);
        DUE.is("rule(0, -1)", x.rule(0, -1), KilnLine.BAD);
        DUE.is("rule(0, 101)", x.rule(0, 101), KilnLine.BAD);
        // What was refused left DELAY 5, THE GAIN 100 and THE AIM 1.
        stockAll(x, 750, 250, 0);
        for (int h = 0; h < 5; h++) {
            DUE.is("hour(false)", x.hour(false), 0);
        }
        DUE.is("hour(false), the 6th", x.hour(false), 3);
        DUE.is("shareOf(0)", x.shareOf(0), 150);
        DUE.is("read()", x.read(), 0);
    }

    private static void hourReadsTheYoungest() {
        KilnLine x = new KilnLine();
        x.rule(3, 1);
        DUE.is("hour 0", x.hour(false), 0);
        x.rule(2, 1);
        DUE.is("hour 1", x.hour(false), 0);
        DUE.is("read()", x.read(), KilnLine.NONE);
        DUE.is("passed(): all to come", x.passed(), 0);
        x.rule(1, 1);
        DUE.is("hour 2", x.hour(false), 0);
        // Now 0, 1 and 2 come at once.
        DUE.is("hour 3", x.hour(true), 2);
        DUE.is("read()", x.read(), 2);
        DUE.is("passed()", x.passed(), 2);
        DUE.is("shareOf(0): one shift", x.shareOf(0), 251);
        DUE.is("hour 4", x.hour(true), 0);
        DUE.is("read()", x.read(), KilnLine.NONE);
        DUE.is("passed()", x.passed(), 2);
        DUE.is("count(1)", x.count(1), 5);
        x.rule(0, 1);
        DUE.is("hour 5", x.hour(false), 2);
        DUE.is("read()", x.read(), 5);
        DUE.is("passed()", x.passed(), 2);
    }

    private static void lostSamplesNeverCome() {
        KilnLine x = new KilnLine();
        x.rule(0, 10);
        for (int h = 0; h < 8; h++) {
            DUE.is("hour(true)", x.hour(true), 0);
            DUE.is("read()", x.read(), KilnLine.NONE);
        }
        DUE.is("passed()", x.passed(), 0);
        DUE.is("shareOf(0)", x.shareOf(0), 250);
        DUE.is("count(1)", x.count(1), 8);
        DUE.is("hour(false)", x.hour(false), 2);
        DUE.is("read()", x.read(), 8);
        DUE.is("passed()", x.passed(), 0);
    }

    private static void anElderSampleMayComeLater() {
        KilnLine x = new KilnLine();
        x.rule(5, 10);
        x.hour(false);
        x.rule(0, 10);
        for (int h = 1; h < 5; h++) {
            DUE.is("hour(false)", x.hour(false), 2);
            DUE.is("read()", x.read(), h);
        }
        DUE.is("passed()", x.passed(), 0);
        DUE.is("hour(true): the first one comes", x.hour(true), 2);
        DUE.is("read()", x.read(), 0);
        DUE.is("passed()", x.passed(), 0);
        // Likewise, but a younger one comes in the same HOUR.
        KilnLine y = new KilnLine();
        y.rule(5, 10);
        y.hour(false);
        y.rule(0, 10);
        for (int h = 1; h <= 5; h++) {
            y.hour(false);
        }
        DUE.is("read()", y.read(), 5);
        DUE.is("passed()", y.passed(), 1);
    }

    private static void hourShiftsByTheGain() {
        KilnLine x = new KilnLine();
        x.rule(0, 40);
        x.share(30, 50, 900);
        DUE.is("below", x.hour(false), 2);
        DUE.is("shareOf(0)", x.shareOf(0), 70);
        DUE.is("shareOf(1)", x.shareOf(1), 10);
        DUE.is("below, fewer", x.hour(false), 2);
        DUE.is("shareOf(0)", x.shareOf(0), 80);
        DUE.is("shareOf(1)", x.shareOf(1), 0);
        DUE.is("below, none", x.hour(false), 1);
        DUE.is("shareOf(0)", x.shareOf(0), 80);
        x.aim(1, 1000);
        DUE.is("above", x.hour(false), 3);
        DUE.is("shareOf(0)", x.shareOf(0), 40);
        DUE.is("shareOf(1)", x.shareOf(1), 40);
        x.rule(0, 39);
        DUE.is("above", x.hour(false), 3);
        DUE.is("shareOf(0)", x.shareOf(0), 1);
        DUE.is("above, fewer", x.hour(false), 3);
        DUE.is("shareOf(0)", x.shareOf(0), 0);
        DUE.is("shareOf(1)", x.shareOf(1), 80);
        DUE.is("above, none", x.hour(false), 1);
        DUE.is("shareOf(2) stays", x.shareOf(2), 900);
        DUE.is("shareOf(3) stays", x.shareOf(3), 20);
        x.share(250, 250, 250);
        x.rule(0, 0);
        DUE.is("above, no GAIN", x.hour(false), 1);
        x.aim(1000, 1);
        DUE.is("below, no GAIN", x.hour(false), 1);
        DUE.is("read()", x.read(), 8);
        // 10 by 47 is neither below nor above.
        x.aim(10, 47);
        x.rule(0, 5);
        DUE.is("at THE AIM", x.hour(false), 1);
        DUE.is("shareOf(0)", x.shareOf(0), 250);
    }

    private static void aimAndGainAreAsTheyAreWhenRead() {
        KilnLine x = new KilnLine();
        x.rule(1, 7);
        x.hour(false);
        x.rule(1, 9);
        x.aim(1, 1000);
        DUE.is("hour(true)", x.hour(true), 3);
        DUE.is("shareOf(0)", x.shareOf(0), 241);
        DUE.is("shareOf(1)", x.shareOf(1), 259);
    }

    private static void sampleIsOfItsOwnHour() {
        KilnLine x = new KilnLine();
        x.rule(1, 10);
        stockAll(x, 900, 0, 0);
        x.hour(false);
        stockAll(x, 100, 0, 0);
        DUE.is("hour(false): the MIX of the HOUR before", x.hour(false), 3);
        stockAll(x, 1000, 0, 0);
        DUE.is("hour(false): not NOUGHT yet", x.hour(false), 2);
        stockAll(x, 900, 0, 0);
        DUE.is("hour(false): NOUGHT by now", x.hour(false), 1);
        // A SAMPLE of the greatest lime and AIM does not wrap around.
        x.aim(1000, 1000);
        x.rule(0, 10);
        stockAll(x, 999, 0, 0);
        DUE.is("hour(false)", x.hour(false), 3);
        stockAll(x, 0, 1000, 0);
        DUE.is("hour(false)", x.hour(false), 2);
    }

    private static void hourIsFullAt200() {
        KilnLine x = new KilnLine();
        for (int h = 0; h < 199; h++) {
            x.hour(false);
        }
        x.share(500, 500, 0);
        DUE.is("hour(false), the 200th", x.hour(false), 2);
        DUE.is("count(1)", x.count(1), 200);
        DUE.is("read()", x.read(), 198);
        long before = x.digest();
        DUE.is("hour(false), the 201st", x.hour(false), KilnLine.FULL);
        DUE.is("hour(true)", x.hour(true), KilnLine.FULL);
        DUE.is("read() stays", x.read(), 198);
        DUE.is("passed()", x.passed(), 0);
        DUE.is("digest()", x.digest(), before);
    }

    private static void stockAll(KilnLine x, int lime, int sand, int clay) {
        for (int s = 0; s <= 3; s++) {
            x.stock(s, lime, sand, clay);
        }
    }

    private static void runsAreAsReckonedPlainly() {
        boolean[] answers = new boolean[4];
        int passed = 0;
        for (int seed = 0; seed < 300; seed++) {
            Random random = new Random(seed);
            KilnLine x = new KilnLine();
            PlainMix plain = new PlainMix();
            // 6 calls an HOUR at most: nothing is promised behind 512 calls.
            for (int h = 0; h < 80; h++) {
                change(x, plain, random);
                boolean lost = random.nextInt(4) == 0;
                int due = plain.hour(lost);
                DUE.is("hour " + h + ", seed " + seed, x.hour(lost), due);
                DUE.is("read(), seed " + seed, x.read(), plain.read);
                DUE.is("passed(), seed " + seed, x.passed(), plain.passed());
                DUE.is("shareOf(0), seed " + seed, x.shareOf(0), plain.shares[0]);
                DUE.is("shareOf(1), seed " + seed, x.shareOf(1), plain.shares[1]);
                answers[due] = true;
            }
            passed += plain.passed();
        }
        for (int answer = 0; answer < 4; answer++) {
            DUE.holds("the runs had the answer " + answer, answers[answer]);
        }
        DUE.holds("SAMPLES were passed over", passed > 100);
    }

    private static void change(KilnLine x, PlainMix plain, Random random) {
        int a = random.nextInt(random.nextBoolean() ? 1001 : 50);
        int b = random.nextInt(1001 - a);
        int c = random.nextInt(1001 - a - b);
        switch (random.nextInt(8)) {
            case 0 -> {
                int s = random.nextInt(4);
                int[] parts = random.nextInt(3) == 0 ? new int[] {1000, 0, 0} : new int[] {a, b, c};
                x.stock(s, parts[0], parts[1], parts[2]);
                plain.parts[s] = new int[] {parts[0], parts[1], parts[2], 1000 - parts[0] - parts[1] - parts[2]};
            }
            case 1 -> {
                x.share(a, b, c);
                plain.shares = new int[] {a, b, c, 1000 - a - b - c};
            }
            case 2 -> {
                plain.aimUpper = 1 + random.nextInt(1000);
                plain.aimLower = 1 + random.nextInt(random.nextBoolean() ? 1000 : 10);
                x.aim(plain.aimUpper, plain.aimLower);
            }
            case 3, 4 -> {
                plain.delay = random.nextInt(6);
                plain.gain = random.nextInt(101);
                x.rule(plain.delay, plain.gain);
            }
            default -> DUE.is("count(1)", x.count(1), plain.samples.size());
        }
    }
}
