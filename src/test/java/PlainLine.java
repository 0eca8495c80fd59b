import java.math.BigInteger;
import java.util.ArrayList;
import java.util.List;

/**
 * The whole line once more, call by call in the document's words, for WholeTest to compare with.
 * Its calls are written for plainness alone: what is told is reckoned anew each time.
 */
final class PlainLine {
    /** Thrown by a call that is refused, or answers NONE. */
    static final class Refused extends RuntimeException {
        private static final long serialVersionUID = 1;
        final int answer;

        Refused(int answer) {
            this.answer = answer;
        }
    }

    private static final int NOTHING = 1, BEYOND = 2, UNLIKE = 3, NOUGHT = 4, SIZE = 5;
    private static final int[] KINDS = {0, 0, 1, 2};

    private PlainHeap heap = new PlainHeap();
    private final PlainMix mix = new PlainMix();
    private final PlainKiln kiln = new PlainKiln();
    private final PlainSilos silos = new PlainSilos();
    private final int[][] rows = new int[7][];
    private final int[] needs = new int[24];
    private final List<Integer> causesSinceStart = new ArrayList<>();
    private final List<Integer> found = new ArrayList<>();
    private List<int[]> bag = List.of();
    private int steps = 0;
    private long upper = 0;
    private long lower = 1;
    private long asked = 0;

    private static void refuse(int answer, boolean so) {
        if (so) {
            throw new Refused(answer);
        }
    }

    private static void bad(boolean so) {
        refuse(KilnLine.BAD, so);
    }

    private static void outside(long v, long least, long most) {
        bad(v < least || v > most);
    }

    private void find(int finding, boolean so) {
        if (so) {
            found.add(finding);
        }
        refuse(KilnLine.FINDING, so);
    }

    int stroke(int t, int c, int d) {
        outside(t, 1, 1000);
        for (int p = 0; p < 10; p++) {
            outside(c + (long) d * p, 0, t);
        }
        refuse(KilnLine.FULL, heap.strokes.size() == 30);
        heap.stroke(t, c, d);
        return heap.strokes.size();
    }

    int cut(int p) {
        outside(p, 0, 9);
        refuse(KilnLine.STATE, heap.cut[p]);
        int tons = heap.tons(p);
        asked = heap.lime(p);
        heap.cut(p);
        return tons;
    }

    int place(int p, int what) {
        outside(p, 0, 9);
        outside(what, 0, 1);
        return what == 0 ? heap.tons(p) : heap.lime(p);
    }

    int spread() {
        return heap.spread();
    }

    int strokeSpread(int i) {
        outside(i, 0, heap.strokes.size() - 1);
        return heap.spread(i);
    }

    int clear() {
        int had = heap.strokes.size();
        heap = new PlainHeap();
        return had;
    }

    private static int[] whole(int a, int b, int c) {
        int[] four = {a, b, c, 0};
        for (int part : four) {
            outside(part, 0, 1000);
        }
        bad(a + b + c > 1000);
        four[3] = 1000 - a - b - c;
        return four;
    }

    int stock(int s, int lime, int sand, int clay) {
        outside(s, 0, 3);
        mix.parts[s] = whole(lime, sand, clay);
        return 1;
    }

    int share(int a, int b, int c) {
        mix.shares = whole(a, b, c);
        return 1;
    }

    int shareOf(int s) {
        outside(s, 0, 3);
        return mix.shares[s];
    }

    int mix(int k) {
        outside(k, 0, 3);
        return (int) mix.part(k);
    }

    int number() {
        find(NOUGHT, mix.lower() == 0);
        BigInteger above = BigInteger.valueOf(mix.upper());
        BigInteger below = BigInteger.valueOf(mix.lower());
        BigInteger common = above.gcd(below);
        upper = above.divide(common).longValueExact();
        lower = below.divide(common).longValueExact();
        return 1;
    }

    int aim(int a, int b) {
        outside(a, 1, 1000);
        outside(b, 1, 1000);
        mix.aimUpper = a;
        mix.aimLower = b;
        return 1;
    }

    int rule(int delay, int gain) {
        outside(delay, 0, 5);
        outside(gain, 0, 100);
        mix.delay = delay;
        mix.gain = gain;
        return 1;
    }

    int hour(boolean lost) {
        refuse(KilnLine.FULL, mix.samples.size() == 200);
        return mix.hour(lost);
    }

    int read() {
        return mix.read;
    }

    int passed() {
        return mix.passed();
    }

    int step(int feed, int fuel, int speed) {
        outside(feed, 0, 1000);
        outside(fuel, 0, 100000);
        outside(speed, 0, 100);
        refuse(KilnLine.FULL, steps == 500);
        kiln.step(feed, fuel, speed);
        if (kiln.tons > 0) {
            silos.store(kiln.grade, steps, (int) kiln.tons);
        }
        if (kiln.cause != 0) {
            causesSinceStart.add(steps);
        }
        steps++;
        return kiln.cause;
    }

    int start() {
        if (!kiln.stopped) {
            return 0;
        }
        kiln.stopped = false;
        causesSinceStart.clear();
        return 1;
    }

    int zone(int z, int what) {
        outside(z, 0, 3);
        outside(what, 0, 2);
        long[] told = {kiln.stuff[z], kiln.heat[z], KINDS[z]};
        return (int) told[what];
    }

    int warmth(int z, int kind) {
        outside(z, 0, 3);
        outside(kind, 0, 2);
        find(UNLIKE, kind != 0 && kind != KINDS[z]);
        find(NOUGHT, kiln.stuff[z] == 0);
        return (int) (kiln.heat[z] / kiln.stuff[z]);
    }

    int out(int what) {
        outside(what, 0, 6);
        refuse(KilnLine.NONE, steps == 0);
        long burn = kiln.tons == 0 ? 0 : kiln.hot / kiln.tons;
        long[] told = {kiln.tons, kiln.hot, burn, kiln.grade, kiln.cause, kiln.at, kiln.stack};
        return (int) told[what];
    }

    int sum(int what) {
        outside(what, 0, 4);
        asked = kiln.sums[what];
        return 1;
    }

    int first() {
        return causesSinceStart.isEmpty() ? KilnLine.NONE : causesSinceStart.get(0);
    }

    int silo(int s, int what) {
        outside(s, 0, 2);
        outside(what, 0, 1);
        return what == 0 ? silos.tons(s) : silos.lots(s);
    }

    int bag(int s, int n) {
        outside(s, 0, 2);
        outside(n, 1, 10000);
        refuse(KilnLine.STATE, silos.tons(s) < n);
        bag = silos.bag(s, n);
        return bag.size();
    }

    int lot(int i, int what) {
        outside(what, 0, 1);
        refuse(KilnLine.NONE, i < 0 || i >= bag.size());
        return bag.get(i)[what];
    }

    int day(int d) {
        outside(d, 0, 6);
        boolean was = rows[d] != null;
        rows[d] = new int[24];
        return was ? 1 : 0;
    }

    int price(int d, int h, int v) {
        outside(d, 0, 6);
        outside(v, 0, 1000);
        find(NOTHING, rows[d] == null);
        find(BEYOND, h < 0 || h > 23);
        int was = rows[d][h];
        rows[d][h] = v;
        return was;
    }

    int tear(int d) {
        outside(d, 0, 6);
        find(NOTHING, rows[d] == null);
        rows[d] = null;
        return 1;
    }

    int copy(int d, int i, int e, int j, int n) {
        outside(d, 0, 6);
        outside(e, 0, 6);
        find(SIZE, n < 0);
        find(NOTHING, rows[d] == null || rows[e] == null);
        find(BEYOND, i < 0 || j < 0 || (long) i + n > 24 || (long) j + n > 24);
        int[] taken = rows[d].clone();
        for (int k = 0; k < n; k++) {
            rows[e][j + k] = taken[i + k];
        }
        return 1;
    }

    int need(int h, int tons) {
        outside(h, 0, 23);
        outside(tons, 0, 10000);
        int was = needs[h];
        needs[h] = tons;
        return was;
    }

    int plan(int d, int r) {
        outside(d, 0, 6);
        outside(r, 1, 1000);
        find(NOTHING, rows[d] == null);
        PlainPlan.Rest best = new PlainPlan(rows[d], needs, r).best();
        refuse(KilnLine.NONE, best == null);
        asked = best.price();
        return best.bits();
    }

    long upper() {
        return upper;
    }

    long lower() {
        return lower;
    }

    long asked() {
        return asked;
    }

    int count(int what) {
        outside(what, 0, 4);
        int there = 0;
        for (int[] row : rows) {
            there += row != null ? 1 : 0;
        }
        int[] told = {heap.strokes.size(), mix.samples.size(), steps, there, kiln.stopped ? 1 : 0};
        return told[what];
    }

    int finding() {
        return found.isEmpty() ? 0 : found.get(found.size() - 1);
    }

    int findings(int f) {
        outside(f, 1, 5);
        int times = 0;
        for (int finding : found) {
            times += finding == f ? 1 : 0;
        }
        return times;
    }

    long digest() {
        Fold fold = new Fold();
        for (int p = 0; p < 10; p++) {
            fold.all(heap.tons(p), heap.lime(p), heap.cut[p] ? 1 : 0);
        }
        for (int s = 0; s < 4; s++) {
            fold.all(mix.parts[s][0], mix.parts[s][1], mix.parts[s][2], mix.parts[s][3], mix.shares[s]);
        }
        for (int z = 0; z < 4; z++) {
            fold.all(kiln.stuff[z], kiln.heat[z]);
        }
        for (int s = 0; s < 3; s++) {
            fold.all(silos.tons(s), silos.lots(s));
        }
        for (int[] row : rows) {
            foldRow(fold, row == null ? new int[] {-1} : row);
        }
        foldRow(fold, needs);
        for (int what = 0; what < 5; what++) {
            fold.all(count(what));
        }
        return fold.told();
    }

    private static void foldRow(Fold fold, int[] row) {
        for (int v : row) {
            fold.all(v);
        }
    }
}
