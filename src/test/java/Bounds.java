import java.util.List;
import java.util.function.Supplier;

/** Calls at their boundaries, each on a line made anew, so that none leans on the one ahead of it. */
final class Bounds {
    interface Call {
        int on(KilnLine x);
    }

    interface Numbered {
        int on(KilnLine x, int number);
    }

    static final int NOTHING = 1, BEYOND = 2, UNLIKE = 3, NOUGHT = 4, SIZE = 5;

    private final Due due;
    private final Supplier<KilnLine> made;

    Bounds(Due due, Supplier<KilnLine> made) {
        this.due = due;
        this.made = made;
    }

    /** The least and the most number are taken, those beyond them are BAD. */
    void range(String call, Numbered c, int least, int atLeast, int most, int atMost) {
        ends(call, c, least, atLeast, most, atMost);
        for (int number : outside(least, most)) {
            refused(String.format(call, number), x -> c.on(x, number), KilnLine.BAD);
        }
    }

    /** As range(), but those beyond them are BEYOND. */
    void places(String call, Numbered c, int least, int atLeast, int most, int atMost) {
        ends(call, c, least, atLeast, most, atMost);
        for (int number : outside(least, most)) {
            found(String.format(call, number), x -> c.on(x, number), BEYOND);
        }
    }

    private void ends(String call, Numbered c, int least, int atLeast, int most, int atMost) {
        taken(String.format(call, least), x -> c.on(x, least), atLeast);
        taken(String.format(call, most), x -> c.on(x, most), atMost);
    }

    private static int[] outside(int least, int most) {
        return new int[] {least - 1, most + 1, Integer.MIN_VALUE, Integer.MAX_VALUE};
    }

    /** Answers the line behind the call, for what else is due there. */
    KilnLine taken(String call, Call c, int answer) {
        KilnLine x = made.get();
        List<Integer> before = Busy.findings(x);
        due.is(call, c.on(x), answer);
        due.holds(call + " is no FINDING", before.equals(Busy.findings(x)));
        return x;
    }

    /** A refusal that is no FINDING changes nothing at all. */
    void refused(String call, Call c, int answer) {
        unchanged(call, c, answer);
    }

    /** Answers so and changes nothing at all, be it refused or not. */
    void unchanged(String call, Call c, int answer) {
        sameAsUntouched(call, taken(call, c, answer));
    }

    /** Changes nothing but finding() and findings(). */
    void found(String call, Call c, int finding) {
        KilnLine x = made.get();
        List<Integer> before = Busy.findings(x);
        due.is(call, c.on(x), KilnLine.FINDING);
        List<Integer> behind = Busy.findings(x);
        due.is(call + ", then finding()", behind.get(0), finding);
        for (int f = 1; f <= 5; f++) {
            due.is(call + ", then findings(" + f + ")", behind.get(f), before.get(f) + (f == finding ? 1 : 0));
        }
        sameAsUntouched(call, x);
    }

    private void sameAsUntouched(String call, KilnLine x) {
        due.holds(call + " changed nothing", Busy.later(x).equals(Busy.later(made.get())));
    }
}
