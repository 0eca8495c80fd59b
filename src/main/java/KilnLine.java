import java.util.Arrays;

/**
 * A kiln line, from the quarry to the bag.
 *
 * The public methods refuse what the document refuses, in its order (BAD, FULL,
 * STATE, FINDING), and hand the rest to one of the parts inside: so a part is
 * only ever called with numbers that fit, and needs no refusals of its own.
 */
public final class KilnLine {
    public static final int BAD = -1, FULL = -2, FINDING = -3, STATE = -4, NONE = -9;

    private static final int NOTHING = 1, BEYOND = 2, UNLIKE = 3, NOUGHT = 4, SIZE = 5;

    private static final int PLACES = 10, MOST_STROKES = 30, MOST_TONS = 1000;
    private static final int STOCKS = 4, PARTS = 4, WHOLE = 1000;
    private static final int MOST_HOURS = 200, MOST_DELAY = 5, MOST_GAIN = 100, MOST_AIM = 1000;
    private static final int ZONES = 4, MOST_STEPS = 500;
    private static final int MOST_FEED = 1000, MOST_FUEL = 100000, MOST_SPEED = 100;
    private static final int SILOS = 3, MOST_BAG = 10000;
    private static final int DAYS = 7, DAY_HOURS = 24;
    private static final int MOST_PRICE = 1000, MOST_NEED = 10000, MOST_RATE = 1000;
    private static final int COUNTS = 5;

    private final Heap heap = new Heap();
    private final Blend blend = new Blend();
    private final Kiln kiln = new Kiln();
    private final Silos silos = new Silos();
    private final Prices prices = new Prices();
    private final Found found = new Found();
    private long toldUpper = 0;
    private long toldLower = 1;
    private long toldAsked = 0;

    public KilnLine() {
    }

    // ---- 1 the heap

    public int stroke(int t, int c, int d) {
        // The lime goes evenly from end to end, so the two ends tell of all PLACES.
        long farEnd = c + (PLACES - 1) * (long) d;
        if (!within(t, 1, MOST_TONS) || !within(c, 0, t) || farEnd < 0 || farEnd > t) {
            return BAD;
        }
        if (heap.strokes() >= MOST_STROKES) {
            return FULL;
        }
        return heap.lay(t, c, d);
    }

    public int cut(int p) {
        if (!within(p, 0, PLACES - 1)) {
            return BAD;
        }
        if (heap.isCut(p)) {
            return STATE;
        }
        toldAsked = heap.limeOn(p);
        return heap.take(p);
    }

    public int place(int p, int what) {
        if (!within(p, 0, PLACES - 1) || !within(what, 0, 1)) {
            return BAD;
        }
        return what == 0 ? heap.tonsOn(p) : heap.limeOn(p);
    }

    public int spread() {
        return heap.spreadNow();
    }

    public int strokeSpread(int i) {
        if (!within(i, 0, heap.strokes() - 1)) {
            return BAD;
        }
        return heap.spreadLaid(i);
    }

    public int clear() {
        return heap.empty();
    }

    // ---- 2 the mix

    public int stock(int s, int lime, int sand, int clay) {
        if (!within(s, 0, STOCKS - 1) || !fitWhole(lime, sand, clay)) {
            return BAD;
        }
        blend.setParts(s, lime, sand, clay);
        return 1;
    }

    public int share(int a, int b, int c) {
        if (!fitWhole(a, b, c)) {
            return BAD;
        }
        blend.setShares(a, b, c);
        return 1;
    }

    public int shareOf(int s) {
        if (!within(s, 0, STOCKS - 1)) {
            return BAD;
        }
        return blend.sharesOf(s);
    }

    public int mix(int k) {
        if (!within(k, 0, PARTS - 1)) {
            return BAD;
        }
        return blend.part(k);
    }

    public int number() {
        int upper = blend.numberUpper();
        int lower = blend.numberLower();
        if (lower == 0) {
            return found.answer(NOUGHT);
        }
        int common = commonDivisor(upper, lower);
        toldUpper = upper / common;
        toldLower = lower / common;
        return 1;
    }

    public int aim(int a, int b) {
        if (!within(a, 1, MOST_AIM) || !within(b, 1, MOST_AIM)) {
            return BAD;
        }
        blend.setAim(a, b);
        return 1;
    }

    public int rule(int delay, int gain) {
        if (!within(delay, 0, MOST_DELAY) || !within(gain, 0, MOST_GAIN)) {
            return BAD;
        }
        blend.setRule(delay, gain);
        return 1;
    }

    public int hour(boolean lost) {
        if (blend.hours() >= MOST_HOURS) {
            return FULL;
        }
        return blend.passHour(lost);
    }

    public int read() {
        return blend.latestRead();
    }

    public int passed() {
        return blend.passedOver();
    }

    // ---- 3 the kiln

    public int step(int feed, int fuel, int speed) {
        if (!within(feed, 0, MOST_FEED) || !within(fuel, 0, MOST_FUEL) || !within(speed, 0, MOST_SPEED)) {
            return BAD;
        }
        int number = kiln.steps();
        if (number >= MOST_STEPS) {
            return FULL;
        }
        int cause = kiln.burn(feed, fuel, speed);
        int tons = kiln.latest(Kiln.TONS);
        if (tons > 0) {
            silos.store(number, kiln.latest(Kiln.GRADE), tons);
        }
        return cause;
    }

    public int start() {
        return kiln.restart();
    }

    public int zone(int z, int what) {
        if (!within(z, 0, ZONES - 1) || !within(what, 0, 2)) {
            return BAD;
        }
        if (what == 2) {
            return kiln.kindOf(z);
        }
        return what == 0 ? kiln.stuffIn(z) : kiln.heatIn(z);
    }

    public int warmth(int z, int kind) {
        if (!within(z, 0, ZONES - 1) || !within(kind, 0, Kiln.COOLING)) {
            return BAD;
        }
        if (kind != Kiln.PLAIN && kind != kiln.kindOf(z)) {
            return found.answer(UNLIKE);
        }
        int stuff = kiln.stuffIn(z);
        if (stuff == 0) {
            return found.answer(NOUGHT);
        }
        return kiln.heatIn(z) / stuff;
    }

    public int out(int what) {
        if (!within(what, 0, Kiln.TOLD - 1)) {
            return BAD;
        }
        return kiln.steps() == 0 ? NONE : kiln.latest(what);
    }

    public int sum(int what) {
        if (!within(what, 0, Kiln.SUMS - 1)) {
            return BAD;
        }
        toldAsked = kiln.inAll(what);
        return 1;
    }

    public int first() {
        return kiln.firstCaused();
    }

    // ---- 4 silos

    public int silo(int s, int what) {
        if (!within(s, 0, SILOS - 1) || !within(what, 0, 1)) {
            return BAD;
        }
        return what == 0 ? silos.tonsIn(s) : silos.lotsIn(s);
    }

    public int bag(int s, int n) {
        if (!within(s, 0, SILOS - 1) || !within(n, 1, MOST_BAG)) {
            return BAD;
        }
        if (silos.tonsIn(s) < n) {
            return STATE;
        }
        return silos.fill(s, n);
    }

    public int lot(int i, int what) {
        if (!within(what, 0, 1)) {
            return BAD;
        }
        if (!within(i, 0, silos.lotsInBag() - 1)) {
            return NONE;
        }
        return what == 0 ? silos.stepInBag(i) : silos.tonsInBag(i);
    }

    // ---- 5 the plan

    public int day(int d) {
        if (!within(d, 0, DAYS - 1)) {
            return BAD;
        }
        return prices.layRow(d);
    }

    public int price(int d, int h, int v) {
        if (!within(d, 0, DAYS - 1) || !within(v, 0, MOST_PRICE)) {
            return BAD;
        }
        if (!prices.has(d)) {
            return found.answer(NOTHING);
        }
        if (!within(h, 0, DAY_HOURS - 1)) {
            return found.answer(BEYOND);
        }
        return prices.set(d, h, v);
    }

    public int tear(int d) {
        if (!within(d, 0, DAYS - 1)) {
            return BAD;
        }
        if (!prices.has(d)) {
            return found.answer(NOTHING);
        }
        prices.drop(d);
        return 1;
    }

    public int copy(int d, int i, int e, int j, int n) {
        if (!within(d, 0, DAYS - 1) || !within(e, 0, DAYS - 1)) {
            return BAD;
        }
        if (n < 0) {
            return found.answer(SIZE);
        }
        if (!prices.has(d) || !prices.has(e)) {
            return found.answer(NOTHING);
        }
        if (!hasHours(i, n) || !hasHours(j, n)) {
            return found.answer(BEYOND);
        }
        prices.move(d, i, e, j, n);
        return 1;
    }

    public int need(int h, int tons) {
        if (!within(h, 0, DAY_HOURS - 1) || !within(tons, 0, MOST_NEED)) {
            return BAD;
        }
        return prices.setNeed(h, tons);
    }

    public int plan(int d, int r) {
        if (!within(d, 0, DAYS - 1) || !within(r, 1, MOST_RATE)) {
            return BAD;
        }
        if (!prices.has(d)) {
            return found.answer(NOTHING);
        }
        long best = prices.cheapest(d, r);
        if (best == Prices.NO_PLAN) {
            return NONE;
        }
        toldAsked = Prices.priceOf(best);
        return Prices.bitsOf(best);
    }

    // ---- 6 what is told

    public long upper() {
        return toldUpper;
    }

    public long lower() {
        return toldLower;
    }

    public long asked() {
        return toldAsked;
    }

    public int count(int what) {
        switch (what) {
            case 0:
                return heap.strokes();
            case 1:
                return blend.hours();
            case 2:
                return kiln.steps();
            case 3:
                return prices.rows();
            case 4:
                return kiln.isStopped() ? 1 : 0;
            default:
                return BAD;
        }
    }

    public int finding() {
        return found.latest();
    }

    public int findings(int f) {
        if (!within(f, NOTHING, SIZE)) {
            return BAD;
        }
        return found.times(f);
    }

    public long digest() {
        long h = heap.foldInto(17);
        h = blend.foldInto(h);
        h = kiln.foldInto(h);
        h = silos.foldInto(h);
        h = prices.foldInto(h);
        for (int what = 0; what < COUNTS; what++) {
            h = fold(h, count(what));
        }
        return h;
    }

    // ---- what several parts use

    private static boolean within(int v, int least, int most) {
        return v >= least && v <= most;
    }

    private static boolean fitWhole(int a, int b, int c) {
        return within(a, 0, WHOLE) && within(b, 0, WHOLE) && within(c, 0, WHOLE) && a + b + c <= WHOLE;
    }

    /** Written without i + n, which could wrap around. */
    private static boolean hasHours(int i, int n) {
        return within(i, 0, DAY_HOURS) && n <= DAY_HOURS - i;
    }

    private static long fold(long h, long v) {
        return 31 * h + v;
    }

    /** Of a from 0 on and b from 1 on; 64 rounds are more than any two ints need. At least 1, as it divides. */
    private static int commonDivisor(int a, int b) {
        int high = a;
        int low = b;
        for (int round = 0; round < 64 && high != 0; round++) {
            int rest = low % high;
            low = high;
            high = rest;
        }
        return Math.max(low, 1);
    }

    /** The FINDINGS that were answered. */
    private static final class Found {
        private final int[] times = new int[SIZE + 1];
        private int latest = 0;

        int answer(int f) {
            latest = f;
            times[f]++;
            return FINDING;
        }

        int latest() {
            return latest;
        }

        int times(int f) {
            return times[f];
        }
    }

    /** 1 THE HEAP. */
    private static final class Heap {
        private final int[] tons = new int[PLACES];
        private final int[] lime = new int[PLACES];
        private final boolean[] taken = new boolean[PLACES];
        private final int[] spreads = new int[MOST_STROKES];
        private int strokes = 0;

        int strokes() {
            return strokes;
        }

        boolean isCut(int p) {
            return taken[p];
        }

        int tonsOn(int p) {
            return tons[p];
        }

        int limeOn(int p) {
            return lime[p];
        }

        int spreadLaid(int i) {
            return spreads[i];
        }

        int lay(int t, int c, int d) {
            boolean otherEnd = strokes % 2 == 1;
            for (int p = 0; p < PLACES; p++) {
                if (!taken[p]) {
                    tons[p] += t;
                    lime[p] += c + d * (otherEnd ? PLACES - 1 - p : p);
                }
            }
            spreads[strokes] = Math.abs(d) * (PLACES - 1);
            strokes++;
            return strokes;
        }

        int take(int p) {
            int had = tons[p];
            tons[p] = 0;
            lime[p] = 0;
            taken[p] = true;
            return had;
        }

        int spreadNow() {
            int least = NONE;
            int greatest = NONE;
            for (int p = 0; p < PLACES; p++) {
                if (!taken[p]) {
                    least = least == NONE ? lime[p] : Math.min(least, lime[p]);
                    greatest = Math.max(greatest, lime[p]);
                }
            }
            return least == NONE ? NONE : greatest - least;
        }

        int empty() {
            int had = strokes;
            for (int p = 0; p < PLACES; p++) {
                tons[p] = 0;
                lime[p] = 0;
                taken[p] = false;
            }
            strokes = 0;
            return had;
        }

        long foldInto(long start) {
            long h = start;
            for (int p = 0; p < PLACES; p++) {
                h = fold(h, tons[p]);
                h = fold(h, lime[p]);
                h = fold(h, taken[p] ? 1 : 0);
            }
            return h;
        }
    }

    /** 2 STOCKS, SHARES, THE MIX and its SAMPLES. */
    private static final class Blend {
        private static final int LIME = 0, SAND = 1, CLAY = 2, ORE = 3;
        private static final int NOT_READ = 0, STAY = 1, MORE = 2, FEWER = 3;
        /** Of a SAMPLE that is LOST or was read: there is no HOUR in which it is to be read. */
        private static final int NEVER = -1;

        private final int[][] parts = new int[STOCKS][PARTS];
        private final int[] shares = new int[STOCKS];
        private final int[] comes = new int[MOST_HOURS];
        private final int[] sampleUpper = new int[MOST_HOURS];
        private final int[] sampleLower = new int[MOST_HOURS];
        private int hours = 0;
        private int latestRead = NONE;
        private int passedOver = 0;
        private int aimUpper = 3;
        private int aimLower = 1;
        private int delay = 1;
        private int gain = 10;

        Blend() {
            Arrays.fill(shares, WHOLE / STOCKS);
            for (int s = 0; s < STOCKS; s++) {
                Arrays.fill(parts[s], WHOLE / PARTS);
            }
        }

        int hours() {
            return hours;
        }

        int latestRead() {
            return latestRead;
        }

        int passedOver() {
            return passedOver;
        }

        int sharesOf(int s) {
            return shares[s];
        }

        void setParts(int s, int lime, int sand, int clay) {
            parts[s][LIME] = lime;
            parts[s][SAND] = sand;
            parts[s][CLAY] = clay;
            parts[s][ORE] = WHOLE - lime - sand - clay;
        }

        void setShares(int a, int b, int c) {
            shares[0] = a;
            shares[1] = b;
            shares[2] = c;
            shares[3] = WHOLE - a - b - c;
        }

        void setAim(int a, int b) {
            aimUpper = a;
            aimLower = b;
        }

        void setRule(int hoursLate, int step) {
            delay = hoursLate;
            gain = step;
        }

        int part(int k) {
            int sum = 0;
            for (int s = 0; s < STOCKS; s++) {
                sum += shares[s] * parts[s][k];
            }
            return sum;
        }

        int numberUpper() {
            return 10 * part(LIME);
        }

        int numberLower() {
            return 28 * part(SAND) + 12 * part(CLAY) + 7 * part(ORE);
        }

        int passHour(boolean lost) {
            takeSample(lost);
            latestRead = readYoungest();
            hours++;
            return latestRead == NONE ? NOT_READ : correct(latestRead);
        }

        private void takeSample(boolean lost) {
            comes[hours] = lost ? NEVER : hours + delay;
            sampleUpper[hours] = numberUpper();
            sampleLower[hours] = numberLower();
        }

        /** Goes from the eldest on, so that each one found passes over the one before. */
        private int readYoungest() {
            int youngest = NONE;
            for (int h = 0; h <= hours; h++) {
                if (comes[h] != NEVER && comes[h] <= hours) {
                    if (youngest != NONE) {
                        passedOver++;
                    }
                    youngest = h;
                    comes[h] = NEVER;
                }
            }
            return youngest;
        }

        private int correct(int h) {
            if (sampleLower[h] == 0) {
                return STAY;
            }
            long is = (long) sampleUpper[h] * aimLower;
            long due = (long) sampleLower[h] * aimUpper;
            if (is < due) {
                return shift(1, 0) ? MORE : STAY;
            }
            if (is > due) {
                return shift(0, 1) ? FEWER : STAY;
            }
            return STAY;
        }

        private boolean shift(int from, int to) {
            int moved = Math.min(gain, shares[from]);
            shares[from] -= moved;
            shares[to] += moved;
            return moved > 0;
        }

        long foldInto(long start) {
            long h = start;
            for (int s = 0; s < STOCKS; s++) {
                for (int k = 0; k < PARTS; k++) {
                    h = fold(h, parts[s][k]);
                }
                h = fold(h, shares[s]);
            }
            return h;
        }
    }

    /** 3 THE KILN. */
    private static final class Kiln {
        static final int PLAIN = 0, BURNING = 1, COOLING = 2;
        static final int TONS = 0, HEAT = 1, BURN = 2, GRADE = 3, CAUSE = 4, AT = 5, STACK = 6, TOLD = 7;
        static final int FEED_SUM = 0, FUEL_SUM = 1, TONS_SUM = 2, HEAT_SUM = 3, STACK_SUM = 4, SUMS = 5;

        private static final int[] KINDS = {PLAIN, PLAIN, BURNING, COOLING};
        private static final int FLAME = 2, LAST = ZONES - 1;
        private static final int TOO_HOT = 1, TOO_MUCH = 2, RAW = 3, NO_STUFF = 4;
        private static final int MOST_WARMTH = 200, MOST_STUFF = 2000;

        private final int[] stuff = new int[ZONES];
        private final int[] heat = new int[ZONES];
        private final int[] handedStuff = new int[ZONES];
        private final int[] handedHeat = new int[ZONES];
        private final int[] latest = new int[TOLD];
        private final long[] sums = new long[SUMS];
        private int steps = 0;
        private int first = NONE;
        private boolean stopped = false;

        int steps() {
            return steps;
        }

        boolean isStopped() {
            return stopped;
        }

        int firstCaused() {
            return first;
        }

        int kindOf(int z) {
            return KINDS[z];
        }

        int stuffIn(int z) {
            return stuff[z];
        }

        int heatIn(int z) {
            return heat[z];
        }

        int latest(int what) {
            return latest[what];
        }

        long inAll(int what) {
            return sums[what];
        }

        int restart() {
            if (!stopped) {
                return 0;
            }
            stopped = false;
            first = NONE;
            return 1;
        }

        int burn(int feed, int fuel, int speed) {
            int counted = stopped ? 0 : fuel;
            latest[STACK] = passGas(counted);
            handOn(speed);
            stuff[0] += feed;
            tellOut();
            findCause(counted);
            addSums(feed, counted);
            if (latest[CAUSE] != 0 && first == NONE) {
                first = steps;
            }
            steps++;
            return latest[CAUSE];
        }

        /** Answers what is left of the gas for THE STACK. */
        private int passGas(int fuel) {
            int gas = fuel;
            for (int z = 0; z < ZONES; z++) {
                if (KINDS[z] == COOLING) {
                    int given = heat[z] / 10;
                    heat[z] -= given;
                    gas += given;
                }
            }
            for (int z = FLAME; z >= 0; z--) {
                int taken = KINDS[z] == BURNING ? gas / 2 : gas / 4;
                heat[z] += taken;
                gas -= taken;
            }
            return gas;
        }

        /** All that is handed on is reckoned first, since no ZONE may hand on what it just got. */
        private void handOn(int speed) {
            for (int z = 0; z < ZONES; z++) {
                handedStuff[z] = (int) ((long) stuff[z] * speed / 100);
                handedHeat[z] = stuff[z] == 0 ? 0 : (int) ((long) heat[z] * handedStuff[z] / stuff[z]);
            }
            for (int z = 0; z < ZONES; z++) {
                stuff[z] -= handedStuff[z];
                heat[z] -= handedHeat[z];
                if (z > 0) {
                    stuff[z] += handedStuff[z - 1];
                    heat[z] += handedHeat[z - 1];
                }
            }
        }

        private void tellOut() {
            int tons = handedStuff[LAST];
            int burn = tons == 0 ? 0 : handedHeat[LAST] / tons;
            latest[TONS] = tons;
            latest[HEAT] = handedHeat[LAST];
            latest[BURN] = burn;
            latest[GRADE] = burn >= 60 ? 2 : burn >= 30 ? 1 : 0;
        }

        private void findCause(int fuel) {
            int hot = leastTooHot();
            int much = leastTooMuch();
            if (hot != NONE) {
                setCause(TOO_HOT, hot);
            } else if (much != NONE) {
                setCause(TOO_MUCH, much);
            } else if (latest[TONS] > 0 && latest[GRADE] == 0) {
                setCause(RAW, LAST);
            } else if (fuel > 0 && stuff[FLAME] == 0) {
                setCause(NO_STUFF, FLAME);
            } else {
                setCause(0, NONE);
            }
            if (hot != NONE || much != NONE) {
                stopped = true;
            }
        }

        private void setCause(int cause, int zone) {
            latest[CAUSE] = cause;
            latest[AT] = zone;
        }

        private int leastTooHot() {
            for (int z = 0; z < ZONES; z++) {
                if (stuff[z] > 0 && heat[z] > (long) MOST_WARMTH * stuff[z]) {
                    return z;
                }
            }
            return NONE;
        }

        private int leastTooMuch() {
            for (int z = 0; z < ZONES; z++) {
                if (stuff[z] > MOST_STUFF) {
                    return z;
                }
            }
            return NONE;
        }

        private void addSums(int feed, int fuel) {
            sums[FEED_SUM] += feed;
            sums[FUEL_SUM] += fuel;
            sums[TONS_SUM] += latest[TONS];
            sums[HEAT_SUM] += latest[HEAT];
            sums[STACK_SUM] += latest[STACK];
        }

        long foldInto(long start) {
            long h = start;
            for (int z = 0; z < ZONES; z++) {
                h = fold(h, stuff[z]);
                h = fold(h, heat[z]);
            }
            return h;
        }
    }

    /** 4 SILOS. A STEP makes one LOT at most, so its number names the LOT. */
    private static final class Silos {
        private final int[] lotSilo = new int[MOST_STEPS];
        private final int[] lotTons = new int[MOST_STEPS];
        private final int[] tons = new int[SILOS];
        private final int[] lots = new int[SILOS];
        private final int[] bagStep = new int[MOST_STEPS];
        private final int[] bagTons = new int[MOST_STEPS];
        private int bagLots = 0;

        int tonsIn(int s) {
            return tons[s];
        }

        int lotsIn(int s) {
            return lots[s];
        }

        int lotsInBag() {
            return bagLots;
        }

        int stepInBag(int i) {
            return bagStep[i];
        }

        int tonsInBag(int i) {
            return bagTons[i];
        }

        void store(int step, int s, int t) {
            lotSilo[step] = s;
            lotTons[step] = t;
            tons[s] += t;
            lots[s]++;
        }

        int fill(int s, int n) {
            int lacking = n;
            bagLots = 0;
            for (int step = 0; step < MOST_STEPS && lacking > 0; step++) {
                if (lotSilo[step] == s && lotTons[step] > 0) {
                    lacking -= takeOf(step, lacking);
                }
            }
            return bagLots;
        }

        private int takeOf(int step, int most) {
            int s = lotSilo[step];
            int taken = Math.min(lotTons[step], most);
            lotTons[step] -= taken;
            tons[s] -= taken;
            if (lotTons[step] == 0) {
                lots[s]--;
            }
            bagStep[bagLots] = step;
            bagTons[bagLots] = taken;
            bagLots++;
            return taken;
        }

        long foldInto(long start) {
            long h = start;
            for (int s = 0; s < SILOS; s++) {
                h = fold(h, tons[s]);
                h = fold(h, lots[s]);
            }
            return h;
        }
    }

    /** 5 HOURS: ROWS of prices, NEEDS and THE PLAN. */
    private static final class Prices {
        /** Above every choice that there can be. */
        static final long NO_PLAN = 1L << 60;

        private final boolean[] there = new boolean[DAYS];
        private final int[][] row = new int[DAYS][DAY_HOURS];
        private final int[] needs = new int[DAY_HOURS];
        private final long[] best = new long[DAY_HOURS + 1];
        private int rows = 0;

        int rows() {
            return rows;
        }

        boolean has(int d) {
            return there[d];
        }

        int layRow(int d) {
            boolean was = there[d];
            Arrays.fill(row[d], 0);
            there[d] = true;
            if (!was) {
                rows++;
            }
            return was ? 1 : 0;
        }

        void drop(int d) {
            there[d] = false;
            rows--;
        }

        int set(int d, int h, int v) {
            int was = row[d][h];
            row[d][h] = v;
            return was;
        }

        /** arraycopy itself copies as if taken ahead, within one ROW too. */
        void move(int d, int i, int e, int j, int n) {
            System.arraycopy(row[d], i, row[e], j, n);
        }

        int setNeed(int h, int tons) {
            int was = needs[h];
            needs[h] = tons;
            return was;
        }

        /**
         * A choice of HOURS is one long, its price above its bits, so that the lesser long is the
         * better choice among those of as many HOURS; best[k] is the best one of k HOURS so far.
         */
        long cheapest(int d, int r) {
            Arrays.fill(best, NO_PLAN);
            best[0] = 0;
            for (int h = 0; h < DAY_HOURS; h++) {
                long going = ((long) row[d][h] << DAY_HOURS) + (1L << h);
                // From above, as best[k - 1] has to be the one ahead of this HOUR.
                for (int k = h + 1; k >= 0; k--) {
                    if (k > 0 && best[k - 1] != NO_PLAN) {
                        best[k] = Math.min(best[k], best[k - 1] + going);
                    }
                    if (k * r < needs[h]) {
                        best[k] = NO_PLAN;
                    }
                }
            }
            return leastPrice();
        }

        /** Of one price the first is kept: it has the fewest HOURS. */
        private long leastPrice() {
            long least = NO_PLAN;
            for (int k = 0; k <= DAY_HOURS; k++) {
                if (priceOf(best[k]) < priceOf(least)) {
                    least = best[k];
                }
            }
            return least;
        }

        static long priceOf(long choice) {
            return choice >> DAY_HOURS;
        }

        static int bitsOf(long choice) {
            return (int) (choice & ((1L << DAY_HOURS) - 1));
        }

        long foldInto(long start) {
            long h = start;
            for (int d = 0; d < DAYS; d++) {
                h = there[d] ? foldRow(h, row[d]) : fold(h, -1);
            }
            return foldRow(h, needs);
        }

        private static long foldRow(long start, int[] numbers) {
            long h = start;
            for (int v : numbers) {
                h = fold(h, v);
            }
            return h;
        }
    }
}
