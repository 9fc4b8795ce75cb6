import java.util.NoSuchElementException;

/** Promises 6 and 7: difference and compare. */
public final class DifferenceCompareTest {
    private static final Due DUE = new Due("DifferenceCompareTest");
    private static final long SECOND = 1_000_000_000_000_000_000L;

    public static void main(String[] args) {
        EpochDesk desk = new EpochDesk();
        desk.make(0, 0);
        desk.make(10, SECOND / 2);
        desk.make(11, 1);
        desk.make(-100_000_000_000L, SECOND - 1);
        desk.make(400_000_000_000L, 3);
        desk.make(10, SECOND / 2);
        desk.make(0, SECOND - 1);
        differences(desk);
        compares(desk);
        missing(desk);
        DUE.end();
    }

    private static void differences(EpochDesk desk) {
        difference(desk, 0, 0, 0.0);
        difference(desk, 1, 5, 0.0);
        difference(desk, 0, 1, 10.5);
        difference(desk, 1, 0, -10.5);
        difference(desk, 1, 2, 1.0 + (double) (1 - SECOND / 2) * 1.0E-18);
        difference(desk, 2, 1, -1.0 + (double) (SECOND / 2 - 1) * 1.0E-18);
        difference(desk, 3, 4, 5.0E11 + (double) (3 - (SECOND - 1)) * 1.0E-18);
        difference(desk, 4, 3, -5.0E11 + (double) (SECOND - 1 - 3) * 1.0E-18);
        difference(desk, 0, 6, (double) (SECOND - 1) * 1.0E-18);
        difference(desk, 6, 0, (double) (1 - SECOND) * 1.0E-18);
        // Times 1.0E-18 is not divided by 1.0E18: this is where the two part.
        EpochDesk other = new EpochDesk();
        other.make(0, 0);
        other.make(0, 3);
        difference(other, 0, 1, 3.0 * 1.0E-18);
        DUE.same("3.0 * 1.0E-18 is 3.0 / 1.0E18", 3.0 * 1.0E-18 == 3.0 / 1.0E18 ? 1L : 0L, 0L);
    }

    private static void difference(EpochDesk desk, int k, int j, double want) {
        DUE.same("difference(" + k + ", " + j + ")", desk.difference(k, j), want);
    }

    private static void compares(EpochDesk desk) {
        int[] rising = {3, 0, 6, 1, 2, 4};
        for (int a = 0; a < rising.length; a++) {
            for (int b = 0; b < rising.length; b++) {
                String call = "compare(" + rising[a] + ", " + rising[b] + ")";
                DUE.same(call, desk.compare(rising[a], rising[b]), Integer.compare(a, b));
            }
        }
        DUE.same("compare(1, 5)", desk.compare(1, 5), 0L);
        DUE.same("compare(5, 1)", desk.compare(5, 1), 0L);
    }

    private static void missing(EpochDesk desk) {
        for (int k : new int[] {7, -1, 40, Integer.MAX_VALUE, Integer.MIN_VALUE}) {
            DUE.refused("difference(" + k + ", 0)", NoSuchElementException.class, () -> desk.difference(k, 0));
            DUE.refused("difference(0, " + k + ")", NoSuchElementException.class, () -> desk.difference(0, k));
            DUE.refused("compare(" + k + ", 0)", NoSuchElementException.class, () -> desk.compare(k, 0));
            DUE.refused("compare(0, " + k + ")", NoSuchElementException.class, () -> desk.compare(0, k));
            DUE.refused("compare(" + k + ", same)", NoSuchElementException.class, () -> desk.compare(k, k));
        }
    }
}
