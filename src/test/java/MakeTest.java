/** Promise 4: make, with 16 and 17: seconds and attos. */
public final class MakeTest {
    private static final Due DUE = new Due("MakeTest");
    private static final long LEAST = -100_000_000_000L;
    private static final long MOST = 400_000_000_000L;
    private static final long SECOND = 1_000_000_000_000_000_000L;
    private static final Class<IllegalArgumentException> ARGUMENT = IllegalArgumentException.class;

    public static void main(String[] args) {
        bounds();
        thereAreForty();
        DUE.end();
    }

    private static void refused(EpochDesk desk, long seconds, long attos, Class<? extends RuntimeException> want) {
        int before = desk.count(0);
        DUE.refused("make(" + seconds + ", " + attos + ")", want, () -> desk.make(seconds, attos));
        DUE.same("count(0) behind it", desk.count(0), before);
    }

    private static void bounds() {
        EpochDesk desk = new EpochDesk();
        for (long seconds : new long[] {LEAST - 1, MOST + 1, Long.MIN_VALUE, Long.MAX_VALUE}) {
            refused(desk, seconds, 0, ARGUMENT);
        }
        for (long attos : new long[] {-1, SECOND, Long.MIN_VALUE, Long.MAX_VALUE}) {
            refused(desk, 0, attos, ARGUMENT);
        }
        long[][] right = {{0, 0}, {LEAST, 0}, {LEAST, SECOND - 1}, {MOST, 0}, {MOST, SECOND - 1}, {-1, 1}, {0, 0}};
        for (int k = 0; k < right.length; k++) {
            DUE.same("make " + k, desk.make(right[k][0], right[k][1]), k);
        }
        for (int k = 0; k < right.length; k++) {
            DUE.same("seconds(" + k + ")", desk.seconds(k), right[k][0]);
            DUE.same("attos(" + k + ")", desk.attos(k), right[k][1]);
        }
    }

    private static void thereAreForty() {
        EpochDesk desk = new EpochDesk();
        for (int k = 0; k < 40; k++) {
            DUE.same("make", desk.make(k, 2 * k), k);
        }
        refused(desk, 0, 0, IndexOutOfBoundsException.class);
        refused(desk, LEAST - 1, 0, ARGUMENT);
        refused(desk, 0, SECOND, ARGUMENT);
        for (int k = 0; k < 40; k++) {
            DUE.same("seconds(" + k + ")", desk.seconds(k), k);
            DUE.same("attos(" + k + ")", desk.attos(k), 2L * k);
        }
    }
}
