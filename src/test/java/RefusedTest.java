import java.util.ArrayList;
import java.util.List;

/** The Terms: what is refused, in which order, which FINDING it is, and that it changes nothing. */
public final class RefusedTest {
    private static final Due DUE = new Due("RefusedTest");
    private static final int BAD = KilnLine.BAD, FULL = KilnLine.FULL, STATE = KilnLine.STATE, NONE = KilnLine.NONE;
    private static final Bounds BUSY = new Bounds(DUE, Busy::line);
    private static final Bounds FULL_LINE = new Bounds(DUE, RefusedTest::fullLine);

    /** A call that is refused on the line named, with its answer or its FINDING. */
    private record Refused(String call, Bounds.Call c, int answer) {
    }

    public static void main(String[] args) {
        badIsAheadOfFull();
        badIsAheadOfState();
        badIsAheadOfFindings();
        badAndFindingsAreAheadOfNone();
        findingsHaveTheirNumbers();
        eachRefusedCallChangesNothing();
        manyRefusedCallsChangeNothing();
        refusedCallsOfAFullLineChangeNothing();
        DUE.end();
    }

    /** 30 STROKES, all PLACES CUT, 200 HOURS, STOPPED, THE MIX of lime alone. */
    private static KilnLine fullLine() {
        KilnLine x = new KilnLine();
        for (int i = 0; i < 30; i++) {
            x.stroke(10, 1, 1);
        }
        for (int p = 0; p <= 9; p++) {
            x.cut(p);
        }
        for (int h = 0; h < 200; h++) {
            x.hour(h % 3 == 0);
        }
        for (int s = 0; s <= 3; s++) {
            x.stock(s, 1000, 0, 0);
        }
        x.step(1, 2142, 0);
        return x;
    }

    private static void badIsAheadOfFull() {
        DUE.by("in this order: BAD -1, FULL -2");
        FULL_LINE.refused("stroke(0, 0, 0)", x -> x.stroke(0, 0, 0), BAD);
        FULL_LINE.refused("stroke(9, 10, 0)", x -> x.stroke(9, 10, 0), BAD);
        FULL_LINE.refused("stroke(9, 0, 0)", x -> x.stroke(9, 0, 0), FULL);
    }

    private static void badIsAheadOfState() {
        DUE.by("in this order: BAD -1 .. STATE -4 (not now)");
        FULL_LINE.refused("cut(10)", x -> x.cut(10), BAD);
        FULL_LINE.refused("cut(9)", x -> x.cut(9), STATE);
        FULL_LINE.refused("bag(0, 10001)", x -> x.bag(0, 10001), BAD);
        FULL_LINE.refused("bag(0, 10000)", x -> x.bag(0, 10000), STATE);
    }

    private static void badIsAheadOfFindings() {
        DUE.by("in this order: BAD -1 .. FINDING -3");
        BUSY.refused("warmth(0, 3)", x -> x.warmth(0, 3), BAD);
        BUSY.refused("warmth(4, 1)", x -> x.warmth(4, 1), BAD);
        BUSY.refused("price(3, 0, 1001)", x -> x.price(3, 0, 1001), BAD);
        BUSY.refused("price(0, 24, -1)", x -> x.price(0, 24, -1), BAD);
        BUSY.refused("copy(7, 25, 3, 25, -1)", x -> x.copy(7, 25, 3, 25, -1), BAD);
        BUSY.refused("plan(3, 0)", x -> x.plan(3, 0), BAD);
        FULL_LINE.refused("plan(3, 1001)", x -> x.plan(3, 1001), BAD);
    }

    private static void badAndFindingsAreAheadOfNone() {
        DUE.by("Refused is, the first of these that fits");
        Bounds none = new Bounds(DUE, KilnLine::new);
        none.refused("out(7)", x -> x.out(7), BAD);
        none.refused("lot(0, 2)", x -> x.lot(0, 2), BAD);
        BUSY.refused("plan(0, 0)", x -> x.plan(0, 0), BAD);
        BUSY.found("plan(3, 1)", x -> x.plan(3, 1), Bounds.NOTHING);
        BUSY.unchanged("plan(0, 1)", x -> x.plan(0, 1), NONE);
    }

    private static void findingsHaveTheirNumbers() {
        DUE.by("FINDINGS: 1 NOTHING, 2 BEYOND, 3 UNLIKE, 4 NOUGHT, 5 SIZE");
        for (Refused r : foundOnBusy()) {
            BUSY.found(r.call, r.c, r.answer);
        }
        FULL_LINE.found("number()", KilnLine::number, 4);
        FULL_LINE.found("warmth(1, 0)", x -> x.warmth(1, 0), 4);
        FULL_LINE.found("warmth(3, 2)", x -> x.warmth(3, 2), 4);
    }

    private static List<Refused> foundOnBusy() {
        return List.of(
            new Refused("price(3, 0, 1)", x -> x.price(3, 0, 1), 1),
            new Refused("tear(3)", x -> x.tear(3), 1),
            new Refused("copy(3, 0, 0, 0, 1)", x -> x.copy(3, 0, 0, 0, 1), 1),
            new Refused("copy(0, 0, 3, 0, 1)", x -> x.copy(0, 0, 3, 0, 1), 1),
            new Refused("plan(3, 1)", x -> x.plan(3, 1), 1),
            new Refused("price(0, 24, 1)", x -> x.price(0, 24, 1), 2),
            new Refused("copy(0, 24, 6, 0, 1)", x -> x.copy(0, 24, 6, 0, 1), 2),
            new Refused("copy(0, 0, 6, 24, 1)", x -> x.copy(0, 0, 6, 24, 1), 2),
            new Refused("warmth(0, 1)", x -> x.warmth(0, 1), 3),
            new Refused("warmth(2, 2)", x -> x.warmth(2, 2), 3),
            new Refused("copy(0, 0, 6, 0, -1)", x -> x.copy(0, 0, 6, 0, -1), 5));
    }

    private static List<Refused> refusedOnBusy() {
        return List.of(
            new Refused("stroke(0, 0, 0)", x -> x.stroke(0, 0, 0), BAD),
            new Refused("cut(10)", x -> x.cut(10), BAD),
            new Refused("cut(4)", x -> x.cut(4), STATE),
            new Refused("place(10, 0)", x -> x.place(10, 0), BAD),
            new Refused("strokeSpread(2)", x -> x.strokeSpread(2), BAD),
            new Refused("stock(4, 1, 1, 1)", x -> x.stock(4, 1, 1, 1), BAD),
            new Refused("stock(0, 1, 1, 1000)", x -> x.stock(0, 1, 1, 1000), BAD),
            new Refused("share(1, 1, 1000)", x -> x.share(1, 1, 1000), BAD),
            new Refused("shareOf(4)", x -> x.shareOf(4), BAD),
            new Refused("mix(4)", x -> x.mix(4), BAD),
            new Refused("aim(1, 1001)", x -> x.aim(1, 1001), BAD),
            new Refused("aim(0, 1)", x -> x.aim(0, 1), BAD),
            new Refused("rule(0, 101)", x -> x.rule(0, 101), BAD),
            new Refused("rule(6, 0)", x -> x.rule(6, 0), BAD),
            new Refused("step(1, 1, 101)", x -> x.step(1, 1, 101), BAD),
            new Refused("step(1001, 1, 1)", x -> x.step(1001, 1, 1), BAD),
            new Refused("zone(4, 0)", x -> x.zone(4, 0), BAD),
            new Refused("warmth(4, 0)", x -> x.warmth(4, 0), BAD),
            new Refused("out(7)", x -> x.out(7), BAD),
            new Refused("sum(5)", x -> x.sum(5), BAD),
            new Refused("silo(3, 0)", x -> x.silo(3, 0), BAD),
            new Refused("bag(3, 1)", x -> x.bag(3, 1), BAD),
            new Refused("bag(0, 7)", x -> x.bag(0, 7), STATE),
            new Refused("lot(0, 2)", x -> x.lot(0, 2), BAD),
            new Refused("day(7)", x -> x.day(7), BAD),
            new Refused("price(0, 0, 1001)", x -> x.price(0, 0, 1001), BAD),
            new Refused("tear(7)", x -> x.tear(7), BAD),
            new Refused("copy(0, 0, 7, 0, 1)", x -> x.copy(0, 0, 7, 0, 1), BAD),
            new Refused("need(24, 1)", x -> x.need(24, 1), BAD),
            new Refused("need(0, 10001)", x -> x.need(0, 10001), BAD),
            new Refused("plan(0, 1001)", x -> x.plan(0, 1001), BAD),
            new Refused("plan(0, 1)", x -> x.plan(0, 1), NONE),
            new Refused("count(5)", x -> x.count(5), BAD),
            new Refused("findings(6)", x -> x.findings(6), BAD));
    }

    private static void eachRefusedCallChangesNothing() {
        DUE.by("What is refused changes nothing but finding(), findings()");
        for (Refused r : refusedOnBusy()) {
            BUSY.refused(r.call, r.c, r.answer);
        }
    }

    private static void manyRefusedCallsChangeNothing() {
        DUE.by("What is refused changes nothing but finding(), findings()");
        KilnLine x = Busy.line();
        for (Refused r : refusedOnBusy()) {
            DUE.is(r.call, r.c.on(x), r.answer);
        }
        int[] times = {0, 1, 0, 1, 0, 0};
        for (Refused r : foundOnBusy()) {
            DUE.is(r.call, r.c.on(x), KilnLine.FINDING);
            DUE.is("finding()", x.finding(), r.answer);
            times[r.answer]++;
        }
        List<Integer> due = new ArrayList<>(List.of(Bounds.SIZE));
        for (int f = 1; f <= 5; f++) {
            due.add(times[f]);
        }
        DUE.holds("the FINDINGS are " + due, due.equals(Busy.findings(x)));
        DUE.holds("nothing else is changed", Busy.later(x).equals(Busy.later(Busy.line())));
    }

    private static void refusedCallsOfAFullLineChangeNothing() {
        DUE.by("What is refused changes nothing but finding(), findings()");
        FULL_LINE.refused("stroke(1, 0, 0)", x -> x.stroke(1, 0, 0), FULL);
        FULL_LINE.refused("hour(false)", x -> x.hour(false), FULL);
        FULL_LINE.refused("hour(true)", x -> x.hour(true), FULL);
        FULL_LINE.refused("cut(0)", x -> x.cut(0), STATE);
        FULL_LINE.refused("bag(2, 1)", x -> x.bag(2, 1), STATE);
        FULL_LINE.refused("step(-1, 0, 0)", x -> x.step(-1, 0, 0), BAD);
        FULL_LINE.unchanged("spread()", KilnLine::spread, NONE);
        FULL_LINE.unchanged("lot(0, 0)", x -> x.lot(0, 0), NONE);
        FULL_LINE.found("number()", KilnLine::number, Bounds.NOUGHT);
        FULL_LINE.found("tear(0)", x -> x.tear(0), Bounds.NOTHING);
    }
}
