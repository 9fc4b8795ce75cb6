/** An EpochDesk that counts its calls, since the document leaves free what the 513th answers. */
final class Desk {
    static final int MOST_CALLS = 512;

    private final EpochDesk desk = new EpochDesk();
    private int calls;

    int callsLeft() {
        return MOST_CALLS - calls;
    }

    private EpochDesk counted() {
        calls++;
        if (calls > MOST_CALLS) {
            throw new AssertionError("this test makes more calls on an object than the document tells of");
        }
        return desk;
    }

    int leap(int day, int offset) {
        return counted().leap(day, offset);
    }

    int turn(int day, double v) {
        return counted().turn(day, v);
    }

    int make(long seconds, long attos) {
        return counted().make(seconds, attos);
    }

    int shift(int k, double s) {
        return counted().shift(k, s);
    }

    double difference(int k, int j) {
        return counted().difference(k, j);
    }

    int compare(int k, int j) {
        return counted().compare(k, j);
    }

    long date(int k, int scale, int what) {
        return counted().date(k, scale, what);
    }

    double offset(int k, int scale) {
        return counted().offset(k, scale);
    }

    double julian(int k, int scale) {
        return counted().julian(k, scale);
    }

    int text(long w) {
        return counted().text(w);
    }

    int read(int scale) {
        return counted().read(scale);
    }

    int wrong() {
        return counted().wrong();
    }

    int write(int k, int scale, int digits) {
        return counted().write(k, scale, digits);
    }

    int letter(int k) {
        return counted().letter(k);
    }

    long seconds(int k) {
        return counted().seconds(k);
    }

    long attos(int k) {
        return counted().attos(k);
    }

    int count(int what) {
        return counted().count(what);
    }
}
