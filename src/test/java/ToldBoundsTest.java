/** Promises 34 to 40: each sentence on what is told that names a boundary. */
public final class ToldBoundsTest {
    private static final Due DUE = new Due("ToldBoundsTest");
    private static final Bounds NEW = new Bounds(DUE, KilnLine::new);
    private static final Bounds BUSY = new Bounds(DUE, Busy::line);

    public static void main(String[] args) {
        upperIs0Before();
        lowerIs1Before();
        upperAndLowerAreOfNumbersThatAnswered1();
        askedIs0Before();
        askedIsNotOfWhatWasRefused();
        askedIsNotOfNone();
        countTellsOfFiveNumbers();
        countsOfNothing();
        countsOfAllThatThereMayBe();
        findingIs0BeforeAny();
        findingIsTheLatest();
        findingsAre1To5();
        findingsOfNone();
        findingsOfAsManyAsThereMayBe();
        digestOfNothing();
        digestTellsOfAMissingRowOnce();
        digestOfOneNumberEach();
        digestOfAFullLine();
        DUE.end();
    }

    private static void upperIs0Before() {
        DUE.by("The upper number of what number() that answered 1 told last; 0 before");
        KilnLine x = new KilnLine();
        DUE.is("upper()", x.upper(), 0);
        for (int s = 0; s <= 3; s++) {
            x.stock(s, 1000, 0, 0);
        }
        DUE.is("number()", x.number(), KilnLine.FINDING);
        DUE.is("upper() behind NOUGHT", x.upper(), 0);
    }

    private static void lowerIs1Before() {
        DUE.by("Its lower number; 1 before");
        KilnLine x = new KilnLine();
        DUE.is("lower()", x.lower(), 1);
        for (int s = 0; s <= 3; s++) {
            x.stock(s, 1000, 0, 0);
        }
        DUE.is("number()", x.number(), KilnLine.FINDING);
        DUE.is("lower() behind NOUGHT", x.lower(), 1);
    }

    private static void upperAndLowerAreOfNumbersThatAnswered1() {
        DUE.by("what number() that answered 1 told last");
        KilnLine x = Busy.line();
        DUE.is("upper()", x.upper(), 10);
        DUE.is("lower()", x.lower(), 21);
        x.stock(0, 1000, 0, 0);
        x.share(1000, 0, 0);
        DUE.is("number()", x.number(), KilnLine.FINDING);
        x.hour(false);
        DUE.is("upper() stays", x.upper(), 10);
        DUE.is("lower() stays", x.lower(), 21);
        x.share(0, 0, 0);
        DUE.is("number()", x.number(), 1);
        DUE.is("upper()", x.upper(), 10);
        DUE.is("lower()", x.lower(), 47);
    }

    private static void askedIs0Before() {
        DUE.by("0 before");
        KilnLine x = new KilnLine();
        DUE.is("asked()", x.asked(), 0);
        x.stroke(9, 9, 0);
        x.number();
        x.step(9, 9, 0);
        x.day(0);
        DUE.is("asked(), other calls", x.asked(), 0);
        x.cut(10);
        x.sum(5);
        x.plan(1, 1);
        DUE.is("asked(), refused ones", x.asked(), 0);
    }

    private static void askedIsNotOfWhatWasRefused() {
        DUE.by("What the latest cut(), sum(), plan() that was not refused (nor NONE) told");
        KilnLine x = Busy.line();
        DUE.is("asked() of plan()", x.asked(), 8);
        x.cut(4);
        x.cut(-1);
        x.cut(10);
        x.sum(-1);
        x.sum(5);
        x.plan(0, 0);
        x.plan(0, 1001);
        x.plan(7, 1);
        x.plan(3, 1);
        DUE.is("asked() stays", x.asked(), 8);
        x.sum(1);
        DUE.is("asked() of sum()", x.asked(), 1332);
        x.cut(9);
        DUE.is("asked() of cut()", x.asked(), 100);
    }

    private static void askedIsNotOfNone() {
        DUE.by("not refused (nor NONE)");
        KilnLine x = Busy.line();
        DUE.is("plan(0, 1)", x.plan(0, 1), KilnLine.NONE);
        DUE.is("asked() stays", x.asked(), 8);
        x.need(2, 0);
        x.need(23, 0);
        DUE.is("plan(0, 1): no HOUR is no NONE", x.plan(0, 1), 0);
        DUE.is("asked()", x.asked(), 0);
    }

    private static void countTellsOfFiveNumbers() {
        DUE.by("0 STROKES, 1 HOURS of the mix, 2 STEPS, 3 ROWS that are there, 4 whether THE KILN is STOPPED (1, 0). BAD");
        BUSY.range("count(%d)", KilnLine::count, 0, 2, 4, 0);
        int[] due = {2, 3, 11, 2, 0};
        for (int what = 0; what <= 4; what++) {
            int number = what;
            BUSY.taken("count(" + what + ")", x -> x.count(number), due[what]);
        }
    }

    private static void countsOfNothing() {
        DUE.by("0 STROKES, 1 HOURS of the mix, 2 STEPS, 3 ROWS that are there, 4 whether THE KILN is STOPPED");
        for (int what = 0; what <= 4; what++) {
            int number = what;
            NEW.taken("count(" + what + ")", x -> x.count(number), 0);
        }
    }

    private static void countsOfAllThatThereMayBe() {
        DUE.by("0 STROKES, 1 HOURS of the mix, 2 STEPS, 3 ROWS that are there, 4 whether THE KILN is STOPPED");
        KilnLine x = new KilnLine();
        for (int i = 0; i < 31; i++) {
            x.stroke(1, 0, 0);
        }
        for (int i = 0; i < 201; i++) {
            x.hour(false);
        }
        for (int d = 0; d <= 7; d++) {
            x.day(d);
        }
        x.day(6);
        for (int i = 0; i < 3; i++) {
            x.step(1000, 0, 0);
        }
        int[] due = {30, 200, 3, 7, 1};
        for (int what = 0; what <= 4; what++) {
            DUE.is("count(" + what + ")", x.count(what), due[what]);
        }
        KilnLine y = new KilnLine();
        for (int i = 0; i < 501; i++) {
            y.step(0, 0, 0);
        }
        DUE.is("count(2)", y.count(2), 500);
    }

    private static void findingIs0BeforeAny() {
        DUE.by("The latest FINDING (0 before any)");
        KilnLine x = new KilnLine();
        DUE.is("finding()", x.finding(), 0);
        x.stroke(0, 0, 0);
        x.bag(0, 1);
        x.cut(0);
        x.cut(0);
        x.out(0);
        x.lot(0, 0);
        x.day(7);
        for (int i = 0; i < 31; i++) {
            x.stroke(1, 0, 0);
        }
        DUE.is("finding(): BAD, FULL, STATE, NONE are none", x.finding(), 0);
    }

    private static void findingIsTheLatest() {
        DUE.by("The latest FINDING");
        BUSY.taken("finding()", KilnLine::finding, Bounds.UNLIKE);
        for (int first = 1; first <= 5; first++) {
            for (int then = 1; then <= 5; then++) {
                KilnLine x = Busy.line();
                answer(x, first);
                DUE.is("finding()", x.finding(), first);
                answer(x, then);
                DUE.is("finding()", x.finding(), then);
            }
        }
    }

    private static void answer(KilnLine x, int finding) {
        int answered = switch (finding) {
            case Bounds.NOTHING -> x.tear(3);
            case Bounds.BEYOND -> x.price(0, 24, 1);
            case Bounds.UNLIKE -> x.warmth(0, 1);
            case Bounds.NOUGHT -> {
                x.stock(0, 1000, 0, 0);
                x.share(1000, 0, 0);
                yield x.number();
            }
            default -> x.copy(0, 0, 0, 0, -1);
        };
        DUE.is("a FINDING", answered, KilnLine.FINDING);
    }

    private static void findingsAre1To5() {
        DUE.by("How often a FINDING (1 .. 5) was answered. BAD");
        BUSY.range("findings(%d)", KilnLine::findings, 1, 1, 5, 0);
        int[] due = {0, 1, 0, 1, 0, 0};
        for (int f = 1; f <= 5; f++) {
            int number = f;
            BUSY.taken("findings(" + f + ")", x -> x.findings(number), due[f]);
        }
        for (int f = 1; f <= 5; f++) {
            KilnLine x = Busy.line();
            answer(x, f);
            for (int g = 1; g <= 5; g++) {
                DUE.is("findings(" + g + ") behind " + f, x.findings(g), due[g] + (f == g ? 1 : 0));
            }
        }
    }

    private static void findingsOfNone() {
        DUE.by("How often a FINDING (1 .. 5) was answered. BAD");
        NEW.range("findings(%d)", KilnLine::findings, 1, 0, 5, 0);
    }

    private static void findingsOfAsManyAsThereMayBe() {
        DUE.by("How often a FINDING (1 .. 5) was answered");
        KilnLine x = new KilnLine();
        for (int i = 0; i < 500; i++) {
            x.warmth(i % 4, 0);
        }
        DUE.is("findings(4)", x.findings(4), 500);
        DUE.is("findings(3)", x.findings(3), 0);
        DUE.is("findings(5)", x.findings(5), 0);
    }

    private static void digestOfNothing() {
        DUE.by("h = 17; then h = 31 h + v for each v");
        DUE.is("digest()", new KilnLine().digest(), digestWithRows(0).told());
        KilnLine x = Busy.line();
        long told = x.digest();
        DUE.is("digest() again", x.digest(), told);
    }

    /** Of a new line, but with a ROW for each DAY whose bit is set. */
    private static Fold digestWithRows(int days) {
        Fold fold = new Fold();
        fold.add(10 * 3, 0);
        fold.add(4 * 5, 250);
        fold.add(4 * 2 + 3 * 2, 0);
        for (int d = 0; d <= 6; d++) {
            boolean there = (days >> d & 1) == 1;
            fold.add(there ? 24 : 1, there ? 0 : -1);
        }
        fold.add(24, 0);
        fold.all(0, 0, 0, Integer.bitCount(days), 0);
        return fold;
    }

    private static void digestTellsOfAMissingRowOnce() {
        DUE.by("of each DAY its prices (-1 once: missing)");
        for (int days = 0; days < 128; days++) {
            KilnLine x = new KilnLine();
            for (int d = 0; d <= 6; d++) {
                if ((days >> d & 1) == 1) {
                    x.day(d);
                }
            }
            DUE.is("digest() with ROWS " + days, x.digest(), digestWithRows(days).told());
            for (int d = 0; d <= 6; d++) {
                x.tear(d);
            }
            DUE.is("digest() without them", x.digest(), digestWithRows(0).told());
        }
    }

    /** All numbers of a busy line are told apart, so one left out or in another order shows. */
    private static void digestOfOneNumberEach() {
        DUE.by("of each PLACE tons, lime, whether it is CUT .. count() 0 to 4");
        Fold fold = new Fold();
        for (int p = 0; p <= 9; p++) {
            fold.all(p == 4 ? 0 : 150, p == 4 ? 0 : 10 + 10 * p, p == 4 ? 1 : 0);
        }
        fold.all(900, 50, 25, 25, 400);
        fold.all(100, 500, 300, 100, 300);
        fold.all(250, 250, 250, 250, 200);
        fold.all(250, 250, 250, 250, 100);
        fold.all(10, 18, 23, 100, 15, 182, 4, 168);
        fold.all(6, 1, 3, 2, 5, 1);
        fold.all(9, 3, 5);
        fold.add(20, 0);
        fold.all(1);
        fold.add(5, -1);
        fold.all(1000);
        fold.add(22, 0);
        fold.all(7);
        fold.all(0, 0, 20);
        fold.add(20, 0);
        fold.all(40);
        fold.all(2, 3, 11, 2, 0);
        DUE.is("digest()", Busy.line().digest(), fold.told());
    }

    private static void digestOfAFullLine() {
        DUE.by("of each PLACE tons, lime, whether it is CUT .. count() 0 to 4");
        KilnLine x = new KilnLine();
        for (int i = 0; i < 30; i++) {
            x.stroke(1000, 1000, 0);
        }
        x.cut(0);
        x.cut(9);
        x.stock(0, 0, 0, 0);
        x.stock(3, 0, 0, 1000);
        x.share(0, 0, 0);
        for (int i = 0; i < 3; i++) {
            x.step(1000, 100000, 0);
        }
        for (int d = 0; d <= 6; d++) {
            x.day(d);
            for (int h = 0; h <= 23; h++) {
                x.price(d, h, 1000 - d - h);
            }
        }
        for (int h = 0; h <= 23; h++) {
            x.need(h, 10000 - h);
        }
        DUE.is("digest()", x.digest(), digestOfFull().told());
    }

    private static Fold digestOfFull() {
        Fold fold = new Fold();
        fold.all(0, 0, 1);
        for (int p = 1; p <= 8; p++) {
            fold.all(30000, 30000, 0);
        }
        fold.all(0, 0, 1);
        fold.all(0, 0, 0, 1000, 0);
        fold.add(4, 250);
        fold.all(0);
        fold.add(4, 250);
        fold.all(0);
        fold.all(0, 0, 1000, 0, 1000);
        fold.all(3000, 3 * 9375, 0, 3 * 12500, 0, 3 * 50000, 0, 0);
        fold.add(6, 0);
        for (int d = 0; d <= 6; d++) {
            for (int h = 0; h <= 23; h++) {
                fold.all(1000 - d - h);
            }
        }
        for (int h = 0; h <= 23; h++) {
            fold.all(10000 - h);
        }
        fold.all(30, 0, 3, 7, 1);
        return fold;
    }
}
