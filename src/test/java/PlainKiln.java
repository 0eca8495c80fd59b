/** THE KILN once more, straight from the document's text. */
final class PlainKiln {
    long[] stuff = new long[4];
    long[] heat = new long[4];
    final long[] sums = new long[5];
    boolean stopped = false;
    long tons;
    long hot;
    long stack;
    int grade;
    int cause;
    int at;

    void step(int feed, int fuel, int speed) {
        long q = stopped ? 0 : fuel;
        long tenth = heat[3] / 10;
        long gas = q + tenth;
        long two = gas / 2;
        long one = (gas - two) / 4;
        long nil = (gas - two - one) / 4;
        stack = gas - two - one - nil;
        long[] h = {heat[0] + nil, heat[1] + one, heat[2] + two, heat[3] - tenth};
        long[] s = stuff.clone();
        long[] m = new long[4];
        long[] w = new long[4];
        for (int z = 0; z < 4; z++) {
            m[z] = s[z] * speed / 100;
            w[z] = s[z] > 0 ? h[z] * m[z] / s[z] : 0;
        }
        stuff = new long[] {s[0] - m[0] + feed, s[1] - m[1] + m[0], s[2] - m[2] + m[1], s[3] - m[3] + m[2]};
        heat = new long[] {h[0] - w[0], h[1] - w[1] + w[0], h[2] - w[2] + w[1], h[3] - w[3] + w[2]};
        tons = m[3];
        hot = w[3];
        grade = tons > 0 && hot >= 60 * tons ? 2 : tons > 0 && hot >= 30 * tons ? 1 : 0;
        findCause(q);
        long[] more = {feed, q, tons, hot, stack};
        for (int i = 0; i < 5; i++) {
            sums[i] += more[i];
        }
    }

    /** The weakest CAUSE and the last ZONE first, so that what comes behind outdoes it. */
    private void findCause(long q) {
        cause = 0;
        at = KilnLine.NONE;
        if (q > 0 && stuff[2] == 0) {
            cause = 4;
            at = 2;
        }
        if (tons > 0 && grade == 0) {
            cause = 3;
            at = 3;
        }
        for (int z = 3; z >= 0; z--) {
            if (stuff[z] > 2000) {
                cause = 2;
                at = z;
            }
        }
        for (int z = 3; z >= 0; z--) {
            if (stuff[z] > 0 && heat[z] > 200 * stuff[z]) {
                cause = 1;
                at = z;
            }
        }
        stopped |= cause == 1 || cause == 2;
    }
}
