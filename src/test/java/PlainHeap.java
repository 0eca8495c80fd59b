import java.util.ArrayList;
import java.util.Arrays;
import java.util.List;

/** THE HEAP once more, as layers {tons, lime} that lie on each PLACE. */
final class PlainHeap {
    private final List<List<int[]>> layers = new ArrayList<>();
    final boolean[] cut = new boolean[10];
    /** Of each STROKE its lime on all PLACES. */
    final List<int[]> strokes = new ArrayList<>();

    PlainHeap() {
        for (int p = 0; p < 10; p++) {
            layers.add(new ArrayList<>());
        }
    }

    void stroke(int t, int c, int d) {
        boolean second = strokes.size() % 2 == 1;
        int[] limes = new int[10];
        for (int p = 0; p < 10; p++) {
            limes[p] = second ? c + d * (9 - p) : c + d * p;
            if (!cut[p]) {
                layers.get(p).add(new int[] {t, limes[p]});
            }
        }
        strokes.add(limes);
    }

    int tons(int p) {
        return sum(p, 0);
    }

    int lime(int p) {
        return sum(p, 1);
    }

    private int sum(int p, int what) {
        int sum = 0;
        for (int[] layer : layers.get(p)) {
            sum += layer[what];
        }
        return sum;
    }

    void cut(int p) {
        layers.get(p).clear();
        cut[p] = true;
    }

    int spread() {
        List<Integer> limes = new ArrayList<>();
        for (int p = 0; p < 10; p++) {
            if (!cut[p]) {
                limes.add(lime(p));
            }
        }
        limes.sort(null);
        return limes.isEmpty() ? KilnLine.NONE : limes.get(limes.size() - 1) - limes.get(0);
    }

    int spread(int i) {
        int[] limes = strokes.get(i).clone();
        Arrays.sort(limes);
        return limes[9] - limes[0];
    }
}
