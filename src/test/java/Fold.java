/** The digest as the document tells it: h = 17; then h = 31 h + v for each v. */
final class Fold {
    private long h = 17;

    void add(int times, long v) {
        for (int i = 0; i < times; i++) {
            h = 31 * h + v;
        }
    }

    void all(long... numbers) {
        for (long v : numbers) {
            add(1, v);
        }
    }

    long told() {
        return h;
    }
}
