/** Promises 34 to 40: what is told. */
public final class ToldTest {
    private static final Due DUE = new Due("ToldTest");

    public static void main(String[] args) {
        upperAndLowerAreOfTheLatestNumber();
        askedIsOfTheLatestTelling();
        countTells();
        findingIsTheLatest();
        findingsAreCounted();
        digestOfANewObject();
        digestOfAUsedObject();
        digestLooksAtEachNumber();
        DUE.end();
    }

    private static void upperAndLowerAreOfTheLatestNumber() {
        KilnLine x = new KilnLine();
        x.stock(0, 500, 500, 0);
        x.share(1000, 0, 0);
        DUE.is("upper() before", x.upper(), 0);
        DUE.is("lower() before", x.lower(), 1);
        x.number();
        // 5000 by 14000
        DUE.is("upper()", x.upper(), 5);
        DUE.is("lower()", x.lower(), 14);
        x.stock(0, 1000, 0, 0);
        DUE.is("upper(): as told", x.upper(), 5);
        x.number();
        DUE.is("upper(): not by NOUGHT", x.upper(), 5);
        DUE.is("lower(): not by NOUGHT", x.lower(), 14);
        x.stock(0, 0, 0, 1);
        x.number();
        DUE.is("upper()", x.upper(), 0);
        DUE.is("lower()", x.lower(), 1);
    }

    private static void askedIsOfTheLatestTelling() {
        KilnLine x = new KilnLine();
        x.stroke(50, 12, 1);
        x.cut(3);
        DUE.is("asked() of cut()", x.asked(), 15);
        x.step(40, 0, 0);
        DUE.is("asked(): as told", x.asked(), 15);
        x.sum(0);
        DUE.is("asked() of sum()", x.asked(), 40);
        x.day(0);
        x.price(0, 0, 6);
        x.need(0, 3);
        x.plan(0, 3);
        DUE.is("asked() of plan()", x.asked(), 6);
        x.cut(3);
        x.cut(10);
        x.sum(5);
        x.plan(1, 1);
        x.plan(0, 0);
        x.plan(0, 2);
        DUE.is("asked(): not by what is refused, nor NONE", x.asked(), 6);
        x.number();
        x.hour(false);
        x.clear();
        DUE.is("asked(): not by other calls", x.asked(), 6);
        x.cut(0);
        DUE.is("asked() of cut() of nothing", x.asked(), 0);
    }

    private static void countTells() {
        KilnLine x = new KilnLine();
        x.stroke(1, 0, 0);
        x.hour(false);
        x.hour(true);
        x.step(1000, 0, 0);
        x.step(1000, 0, 0);
        x.step(1000, 0, 0);
        for (int d = 0; d < 4; d++) {
            x.day(d);
        }
        int[] due = {1, 2, 3, 4, 1};
        for (int what = 0; what < 5; what++) {
            DUE.is("count(" + what + ")", x.count(what), due[what]);
        }
        x.start();
        DUE.is("count(4)", x.count(4), 0);
        DUE.is("count(-1)", x.count(-1), KilnLine.BAD);
        DUE.is("count(5)", x.count(5), KilnLine.BAD);
    }

    private static void findingIsTheLatest() {
        KilnLine x = new KilnLine();
        x.tear(0);
        DUE.is("finding(): NOTHING", x.finding(), 1);
        x.day(0);
        x.price(0, 24, 0);
        DUE.is("finding(): BEYOND", x.finding(), 2);
        x.warmth(0, 1);
        DUE.is("finding(): UNLIKE", x.finding(), 3);
        x.warmth(0, 0);
        DUE.is("finding(): NOUGHT", x.finding(), 4);
        x.copy(0, 0, 0, 0, -1);
        DUE.is("finding(): SIZE", x.finding(), 5);
        x.price(0, 0, 3);
        x.tear(9);
        x.bag(0, 1);
        DUE.is("finding(): not by other answers", x.finding(), 5);
    }

    private static void findingsAreCounted() {
        KilnLine x = new KilnLine();
        x.day(0);
        for (int f = 1; f <= 5; f++) {
            for (int i = 0; i < f; i++) {
                answerFinding(x, f);
            }
        }
        for (int f = 1; f <= 5; f++) {
            DUE.is("findings(" + f + ")", x.findings(f), f);
        }
        DUE.is("findings(0)", x.findings(0), KilnLine.BAD);
        DUE.is("findings(6)", x.findings(6), KilnLine.BAD);
        DUE.is("findings(-1)", x.findings(-1), KilnLine.BAD);
        DUE.is("finding()", x.finding(), 5);
    }

    private static void answerFinding(KilnLine x, int f) {
        switch (f) {
            case 1 -> DUE.is("plan(1, 1)", x.plan(1, 1), KilnLine.FINDING);
            case 2 -> DUE.is("copy(0, 25, 0, 0, 0)", x.copy(0, 25, 0, 0, 0), KilnLine.FINDING);
            case 3 -> DUE.is("warmth(3, 1)", x.warmth(3, 1), KilnLine.FINDING);
            case 4 -> DUE.is("warmth(3, 2)", x.warmth(3, 2), KilnLine.FINDING);
            default -> DUE.is("copy(0, 0, 0, 0, -9)", x.copy(0, 0, 0, 0, -9), KilnLine.FINDING);
        }
    }

    private static void digestOfANewObject() {
        Fold fold = new Fold();
        fold.add(30, 0);
        fold.add(20, 250);
        fold.add(8, 0);
        fold.add(6, 0);
        fold.add(7, -1);
        fold.add(24, 0);
        fold.add(5, 0);
        DUE.is("digest()", new KilnLine().digest(), fold.told());
    }

    private static void digestOfAUsedObject() {
        KilnLine x = new KilnLine();
        x.stroke(100, 10, 3);
        x.cut(1);
        x.stock(1, 1, 2, 3);
        x.share(100, 200, 300);
        x.hour(true);
        for (int i = 0; i < 5; i++) {
            x.step(10 + i, 0, 100);
        }
        x.step(1000, 90000, 0);
        x.day(2);
        x.price(2, 23, 8);
        x.need(5, 55);
        Fold fold = new Fold();
        for (int p = 0; p < 10; p++) {
            fold.all(p == 1 ? 0 : 100, p == 1 ? 0 : 10 + 3 * p, p == 1 ? 1 : 0);
        }
        fold.all(250, 250, 250, 250, 100);
        fold.all(1, 2, 3, 994, 200);
        fold.all(250, 250, 250, 250, 300);
        fold.all(250, 250, 250, 250, 400);
        // 90000 of gas: 45000, 11250 and 8437 of it are taken
        fold.all(1014, 8437, 13, 11250, 12, 45000, 11, 0);
        fold.all(10, 1, 0, 0, 0, 0);
        fold.add(2, -1);
        fold.add(23, 0);
        fold.all(8);
        fold.add(4, -1);
        fold.add(5, 0);
        fold.all(55);
        fold.add(18, 0);
        fold.all(1, 1, 6, 1, 1);
        DUE.is("digest()", x.digest(), fold.told());
        DUE.is("digest() again", x.digest(), fold.told());
    }

    private static void digestLooksAtEachNumber() {
        long before = new KilnLine().digest();
        KilnLine row = new KilnLine();
        row.day(6);
        long withRow = row.digest();
        DUE.holds("a ROW changes digest()", withRow != before);
        row.tear(6);
        DUE.is("digest() without it", row.digest(), before);
        KilnLine told = new KilnLine();
        told.number();
        told.aim(5, 5);
        told.rule(5, 5);
        told.sum(0);
        told.start();
        told.warmth(0, 1);
        told.plan(0, 1);
        DUE.is("digest() does not tell of these", told.digest(), before);
    }
}
