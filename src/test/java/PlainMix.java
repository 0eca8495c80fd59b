import java.util.ArrayList;
import java.util.List;

/** THE MIX once more, straight from the document's text. */
final class PlainMix {
    final int[][] parts = {{250, 250, 250, 250}, {250, 250, 250, 250}, {250, 250, 250, 250}, {250, 250, 250, 250}};
    /** {HOUR in which it comes, upper, lower, 1 if LOST, 1 if read, 1 if read as the youngest} */
    final List<long[]> samples = new ArrayList<>();
    int[] shares = {250, 250, 250, 250};
    int aimUpper = 3;
    int aimLower = 1;
    int delay = 1;
    int gain = 10;
    int read = KilnLine.NONE;

    long part(int k) {
        long sum = 0;
        for (int s = 0; s < 4; s++) {
            sum += (long) shares[s] * parts[s][k];
        }
        return sum;
    }

    long upper() {
        return 10 * part(0);
    }

    long lower() {
        return 28 * part(1) + 12 * part(2) + 7 * part(3);
    }

    int hour(boolean lost) {
        int now = samples.size();
        samples.add(new long[] {now + delay, upper(), lower(), lost ? 1 : 0, 0, 0});
        read = KilnLine.NONE;
        for (int h = now; h >= 0; h--) {
            long[] sample = samples.get(h);
            if (sample[3] == 0 && sample[0] <= now && sample[4] == 0) {
                sample[4] = 1;
                sample[5] = read == KilnLine.NONE ? 1 : 0;
                read = read == KilnLine.NONE ? h : read;
            }
        }
        return read == KilnLine.NONE ? 0 : correct(samples.get(read));
    }

    private int correct(long[] sample) {
        long less = sample[1] * aimLower - sample[2] * aimUpper;
        if (sample[2] == 0 || less == 0) {
            return 1;
        }
        int from = less < 0 ? 1 : 0;
        int moved = Math.min(gain, shares[from]);
        shares[from] -= moved;
        shares[1 - from] += moved;
        return moved == 0 ? 1 : less < 0 ? 2 : 3;
    }

    int passed() {
        int sum = 0;
        for (long[] sample : samples) {
            sum += sample[3] == 0 && sample[0] < samples.size() && sample[5] == 0 ? 1 : 0;
        }
        return sum;
    }
}
