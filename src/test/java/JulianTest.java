import java.util.NoSuchElementException;

/** Promise 10: julian. */
public final class JulianTest {
    private static final Due DUE = new Due("JulianTest");
    private static final long SECOND = 1_000_000_000_000_000_000L;

    public static void main(String[] args) {
        scales();
        leapSeconds();
        earth();
        beyondTheYears();
        whatIsWrong();
        DUE.end();
    }

    private static void julian(EpochDesk desk, int k, int scale, long day, long passed, long attos) {
        double want = (2451544.5 + (double) day) + ((double) passed + (double) attos * 1.0E-18) / 86400.0;
        DUE.same("julian(" + k + ", " + scale + ")", desk.julian(k, scale), want);
    }

    private static void scales() {
        EpochDesk desk = new EpochDesk();
        desk.make(0, 0);
        DUE.same("julian(0, 0)", desk.julian(0, 0), 2451544.5);
        julian(desk, 0, 1, -1, 86368, 0);
        julian(desk, 0, 2, 0, 32, 184_000_000_000_000_000L);
        julian(desk, 0, 3, -1, 86381, 0);
        julian(desk, 0, 4, -1, 86368, 0);
        desk.make(43200, 0);
        DUE.same("julian(1, 0)", desk.julian(1, 0), 2451545.0);
        desk.make(-86400L * 7 + 86399, SECOND - 1);
        julian(desk, 2, 0, -7, 86399, SECOND - 1);
        julian(desk, 2, 2, -6, 32, 183_999_999_999_999_999L);
        // Far enough from 2000 that the day and its part do not add up alike in another order.
        desk.make(86400L * 2_000_001 + 54321, 987_654_321_012_345_678L);
        julian(desk, 3, 0, 2_000_001, 54321, 987_654_321_012_345_678L);
        julian(desk, 3, 3, 2_000_001, 54302, 987_654_321_012_345_678L);
    }

    private static void leapSeconds() {
        EpochDesk desk = new EpochDesk();
        desk.leap(10, 33);
        desk.leap(11, 32);
        desk.make(864032, SECOND / 4);
        desk.make(864033, 0);
        desk.make(950431, SECOND / 2);
        desk.make(950432, 0);
        julian(desk, 0, 1, 9, 86400, SECOND / 4);
        DUE.same("julian of 23:59:60 is behind midnight", desk.julian(0, 1) > desk.julian(1, 1) ? 1L : 0L, 1L);
        julian(desk, 1, 1, 10, 0, 0);
        julian(desk, 2, 1, 10, 86398, SECOND / 2);
        julian(desk, 3, 1, 11, 0, 0);
    }

    private static void earth() {
        EpochDesk desk = new EpochDesk();
        desk.turn(0, 0.25);
        desk.turn(2, -0.25);
        desk.make(0, 0);
        desk.make(86400 + 32, 5);
        julian(desk, 0, 4, -1, 86368, SECOND / 4);
        julian(desk, 1, 4, 1, 0, 5);
    }

    private static void beyondTheYears() {
        EpochDesk desk = new EpochDesk();
        desk.make(-100_000_000_000L, 0);
        desk.make(400_000_000_000L, 0);
        julian(desk, 0, 0, -1157408, 51200, 0);
        julian(desk, 1, 0, 4629629, 54400, 0);
        julian(desk, 0, 1, -1157408, 51168, 0);
        julian(desk, 1, 4, 4629629, 54368, 0);
    }

    private static void whatIsWrong() {
        EpochDesk desk = new EpochDesk();
        DUE.refused("julian(0, 0)", NoSuchElementException.class, () -> desk.julian(0, 0));
        desk.make(0, 0);
        for (int odd : new int[] {-1, 5, Integer.MAX_VALUE, Integer.MIN_VALUE}) {
            DUE.refused("julian(0, " + odd + ")", IllegalArgumentException.class, () -> desk.julian(0, odd));
            DUE.refused("julian(" + odd + ", " + odd + ")", NoSuchElementException.class, () -> desk.julian(odd, odd));
        }
    }
}
