/** Promise 1: a new object. */
public final class NewObjectTest {
    private static final Due DUE = new Due("NewObjectTest");

    public static void main(String[] args) {
        hasNothing();
        tellsNothing();
        hasFirstStocksAndShares();
        hasFirstDelayAndGain();
        hasFirstAim();
        DUE.end();
    }

    private static void hasNothing() {
        KilnLine x = new KilnLine();
        for (int what = 0; what <= 4; what++) {
            DUE.is("count(" + what + ")", x.count(what), 0);
        }
        for (int p = 0; p <= 9; p++) {
            DUE.is("place(p, 0)", x.place(p, 0), 0);
            DUE.is("place(p, 1)", x.place(p, 1), 0);
        }
        for (int z = 0; z <= 3; z++) {
            DUE.is("zone(z, 0)", x.zone(z, 0), 0);
            DUE.is("zone(z, 1)", x.zone(z, 1), 0);
        }
        for (int s = 0; s <= 2; s++) {
            DUE.is("silo(s, 0)", x.silo(s, 0), 0);
            DUE.is("silo(s, 1)", x.silo(s, 1), 0);
        }
        for (int d = 0; d <= 6; d++) {
            DUE.is("tear(d): no ROW", x.tear(d), KilnLine.FINDING);
        }
        for (int h = 0; h <= 23; h++) {
            DUE.is("need(h, 0)", x.need(h, 0), 0);
        }
        DUE.is("spread()", x.spread(), 0);
        DUE.is("strokeSpread(0)", x.strokeSpread(0), KilnLine.BAD);
    }

    private static void tellsNothing() {
        KilnLine x = new KilnLine();
        DUE.is("upper()", x.upper(), 0);
        DUE.is("lower()", x.lower(), 1);
        DUE.is("asked()", x.asked(), 0);
        DUE.is("finding()", x.finding(), 0);
        for (int f = 1; f <= 5; f++) {
            DUE.is("findings(f)", x.findings(f), 0);
        }
        for (int what = 0; what <= 6; what++) {
            DUE.is("out(what)", x.out(what), KilnLine.NONE);
        }
        DUE.is("first()", x.first(), KilnLine.NONE);
        DUE.is("read()", x.read(), KilnLine.NONE);
        DUE.is("passed()", x.passed(), 0);
        DUE.is("lot(0, 0)", x.lot(0, 0), KilnLine.NONE);
    }

    private static void hasFirstStocksAndShares() {
        KilnLine x = new KilnLine();
        for (int s = 0; s <= 3; s++) {
            DUE.is("shareOf(s)", x.shareOf(s), 250);
            DUE.is("mix(s)", x.mix(s), 250000);
        }
        DUE.is("number()", x.number(), 1);
        DUE.is("upper()", x.upper(), 10);
        DUE.is("lower()", x.lower(), 47);
        // Each STOCK alone has 250 of each part.
        for (int s = 0; s <= 3; s++) {
            x.share(s == 0 ? 1000 : 0, s == 1 ? 1000 : 0, s == 2 ? 1000 : 0);
            for (int k = 0; k <= 3; k++) {
                DUE.is("mix(k) of one STOCK", x.mix(k), 250000);
            }
        }
    }

    private static void hasFirstDelayAndGain() {
        KilnLine x = new KilnLine();
        DUE.is("hour(false)", x.hour(false), 0);
        DUE.is("hour(false)", x.hour(false), 2);
        DUE.is("read()", x.read(), 0);
        DUE.is("shareOf(0)", x.shareOf(0), 260);
        DUE.is("shareOf(1)", x.shareOf(1), 240);
    }

    /** 7920 by 2640 is 3 by 1; a part of lime more or less is not. */
    private static void hasFirstAim() {
        DUE.is("hour(false) at 3 by 1", hourWithAll(792, 9, 199), 1);
        DUE.is("hour(false) above 3 by 1", hourWithAll(793, 9, 198), 3);
        DUE.is("hour(false) below 3 by 1", hourWithAll(791, 9, 200), 2);
    }

    private static int hourWithAll(int lime, int sand, int clay) {
        KilnLine x = new KilnLine();
        for (int s = 0; s <= 3; s++) {
            x.stock(s, lime, sand, clay);
        }
        x.hour(false);
        return x.hour(true);
    }
}
