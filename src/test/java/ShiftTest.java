import java.util.NoSuchElementException;

/** Promise 5: shift. */
public final class ShiftTest {
    private static final Due DUE = new Due("ShiftTest");
    private static final long LEAST = -100_000_000_000L;
    private static final long MOST = 400_000_000_000L;
    private static final long SECOND = 1_000_000_000_000_000_000L;
    private static final Class<IllegalArgumentException> ARGUMENT = IllegalArgumentException.class;
    private static final Class<NoSuchElementException> NONE = NoSuchElementException.class;

    public static void main(String[] args) {
        realsBecomeSecondsAndAttos();
        attosAreCarried();
        secondsHaveBounds();
        whatIsMissingAndFull();
        DUE.end();
    }

    private static void shifted(long seconds, long attos, double s, long wantSeconds, long wantAttos) {
        EpochDesk desk = new EpochDesk();
        desk.make(3, 3);
        desk.make(seconds, attos);
        String call = "shift of " + seconds + " " + attos + " by " + s;
        DUE.same(call, desk.shift(1, s), 2L);
        DUE.same(call + ": seconds", desk.seconds(2), wantSeconds);
        DUE.same(call + ": attos", desk.attos(2), wantAttos);
        DUE.same(call + ": seconds of the first", desk.seconds(1), seconds);
        DUE.same(call + ": attos of the first", desk.attos(1), attos);
    }

    private static void refused(EpochDesk desk, int k, double s, Class<? extends RuntimeException> want) {
        int before = desk.count(0);
        DUE.refused("shift(" + k + ", " + s + ")", want, () -> desk.shift(k, s));
        DUE.same("count(0) behind it", desk.count(0), before);
    }

    private static void realsBecomeSecondsAndAttos() {
        shifted(0, 0, 0.0, 0, 0);
        shifted(0, 0, -0.0, 0, 0);
        shifted(7, 9, Double.NaN, 7, 9);
        shifted(0, 0, 2.5, 2, SECOND / 2);
        shifted(0, 0, -2.5, -3, SECOND / 2);
        shifted(0, 0, -2.0, -2, 0);
        shifted(0, 0, 0.1, 0, 100_000_000_000_000_000L);
        shifted(0, 0, -0.25, -1, 750_000_000_000_000_000L);
        shifted(0, 0, 1.0E-18, 0, 1);
        shifted(0, 0, 1.5E-18, 0, 1);
        shifted(0, 0, 0.9E-18, 0, 0);
        shifted(0, 0, Double.MIN_VALUE, 0, 0);
        shifted(0, 0, -Double.MIN_VALUE, 0, 0);
        shifted(0, 0, -1.0E-17, 0, 0);
        shifted(0, 0, -1.0E-15, -1, (long) ((-1.0E-15 + 1.0) * 1.0E18));
        shifted(0, 0, Math.nextDown(1.0), 0, 999_999_999_999_999_872L);
        shifted(0, 0, Math.nextUp(-1.0), -1, 111L);
        shifted(0, 0, 1234567.890625, 1234567, 890_625_000_000_000_000L);
    }

    private static void attosAreCarried() {
        shifted(5, SECOND - 1, 1.0E-18, 6, 0);
        shifted(5, SECOND / 2, 0.5, 6, 0);
        shifted(5, SECOND / 2, 0.75, 6, SECOND / 4);
        shifted(5, SECOND / 2 - 1, 0.5, 5, SECOND - 1);
        shifted(5, SECOND / 4, -0.25, 5, 0);
        shifted(5, SECOND / 4, -0.5, 4, 3 * (SECOND / 4));
    }

    private static void secondsHaveBounds() {
        shifted(LEAST, 0, 5.0E11, MOST, 0);
        shifted(MOST, SECOND - 1, -5.0E11, LEAST, SECOND - 1);
        shifted(MOST, 0, 0.5, MOST, SECOND / 2);
        EpochDesk desk = new EpochDesk();
        desk.make(LEAST, 0);
        desk.make(MOST, SECOND / 2);
        refused(desk, 0, -1.0, ARGUMENT);
        refused(desk, 0, -0.25, ARGUMENT);
        refused(desk, 0, 5.0E11 + 1.0, ARGUMENT);
        refused(desk, 1, 1.0, ARGUMENT);
        refused(desk, 1, 0.5, ARGUMENT);
        refused(desk, 1, -5.0E11 - 1.0, ARGUMENT);
        double[] far = {1.0E13, 1.0E19, 2.0E19, 1.0E300, Double.MAX_VALUE, Double.POSITIVE_INFINITY};
        for (double s : far) {
            for (int k = 0; k < 2; k++) {
                refused(desk, k, s, ARGUMENT);
                refused(desk, k, -s, ARGUMENT);
            }
        }
    }

    private static void whatIsMissingAndFull() {
        EpochDesk desk = new EpochDesk();
        refused(desk, 0, 1.0, NONE);
        desk.make(0, 0);
        refused(desk, 1, 1.0, NONE);
        refused(desk, -1, Double.POSITIVE_INFINITY, NONE);
        for (int k = 1; k < 40; k++) {
            DUE.same("shift", desk.shift(k - 1, 1.0), k);
        }
        refused(desk, 0, 1.0, IndexOutOfBoundsException.class);
        refused(desk, 0, Double.NaN, IndexOutOfBoundsException.class);
        refused(desk, 0, 1.0E12, ARGUMENT);
        refused(desk, 40, 1.0, NONE);
        DUE.same("seconds(39)", desk.seconds(39), 39L);
    }
}
