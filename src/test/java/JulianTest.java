/** Promise 10: julian. */
public final class JulianTest {
    private static final Due DUE = new Due("JulianTest");
    private static final long SECOND = Edges.SECOND;

    public static void main(String[] args) {
        DUE.sentence("The Julian date of MOMENT k on a SCALE", JulianTest::scales);
        DUE.sentence("the real 2451544.5 + DAY", JulianTest::days);
        DUE.sentence("and added to it what has passed of that day, divided by 86400.0", JulianTest::passed);
        DUE.sentence("its seconds as a real (leap seconds, too)", JulianTest::leapSeconds);
        DUE.sentence("and added to it its ATTOS as a real times 1.0E-18", JulianTest::attos);
        DUE.sentence("on UT1", JulianTest::earth);
        DUE.sentence("a MOMENT whose year is not 0 to 9999", JulianTest::beyondTheYears);
        DUE.sentence("NoSuchElementException likewise", JulianTest::thereIsNoK);
        DUE.sentence("IllegalArgumentException likewise", JulianTest::noSuchScale);
        DUE.sentence("the exceptions in the order in which they stand", JulianTest::order);
        DUE.end();
    }

    private static void julian(Desk desk, int k, int scale, long day, long passed, long attos) {
        double want = (2451544.5 + (double) day) + ((double) passed + (double) attos * 1.0E-18) / 86400.0;
        DUE.same("julian(" + k + ", " + scale + ")", desk.julian(k, scale), want);
    }

    private static void scales() {
        Desk desk = Desks.withOneMoment(0, 0);
        DUE.same("julian(0, 0)", desk.julian(0, 0), 2451544.5);
        julian(desk, 0, 1, -1, 86368, 0);
        julian(desk, 0, 2, 0, 32, 184_000_000_000_000_000L);
        julian(desk, 0, 3, -1, 86381, 0);
        julian(desk, 0, 4, -1, 86368, 0);
    }

    private static void days() {
        Desk desk = Desks.withOneMoment(43200, 0);
        DUE.same("julian of 2000-01-01T12:00:00", desk.julian(0, 0), 2451545.0);
        desk.make(-86400, 0);
        DUE.same("julian of 1999-12-31", desk.julian(1, 0), 2451543.5);
        desk.make(Edges.YEAR_0, 0);
        DUE.same("julian of 0000-01-01", desk.julian(2, 0), 1721059.5);
        desk.make(Edges.YEAR_10000, 0);
        DUE.same("julian of 10000-01-01", desk.julian(3, 0), 5373484.5);
    }

    private static void passed() {
        Desk desk = new Desk();
        for (long of : new long[] {0, 1, 43199, 43200, 86398, 86399}) {
            julian(desk, desk.make(-7 * 86400L + of, 0), 0, -7, of, 0);
            // Far enough from 2000 that the day and its part do not add up alike in another order.
            julian(desk, desk.make(2_000_001 * 86400L + of, 987_654_321_012_345_678L), 0, 2_000_001, of,
                    987_654_321_012_345_678L);
        }
    }

    private static void leapSeconds() {
        Desk desk = new Desk();
        desk.leap(10, 33);
        desk.leap(11, 32);
        desk.make(864031, Edges.LAST_ATTO);
        desk.make(864032, 0);
        desk.make(864032, SECOND / 4);
        desk.make(864032, Edges.LAST_ATTO);
        desk.make(864033, 0);
        desk.make(950431, Edges.LAST_ATTO);
        desk.make(950432, 0);
        julian(desk, 0, 1, 9, 86399, Edges.LAST_ATTO);
        julian(desk, 1, 1, 9, 86400, 0);
        julian(desk, 2, 1, 9, 86400, SECOND / 4);
        julian(desk, 3, 1, 9, 86400, Edges.LAST_ATTO);
        julian(desk, 4, 1, 10, 0, 0);
        julian(desk, 5, 1, 10, 86398, Edges.LAST_ATTO);
        julian(desk, 6, 1, 11, 0, 0);
        DUE.isTrue("23:59:60.25 is told behind the next midnight", desk.julian(2, 1) > desk.julian(4, 1));
    }

    private static void attos() {
        Desk desk = new Desk();
        for (long of : new long[] {0, 1, 3, SECOND / 2, Edges.LAST_ATTO}) {
            julian(desk, desk.make(0, of), 0, 0, 0, of);
            julian(desk, desk.make(-1, of), 0, -1, 86399, of);
        }
        desk.make(-86400L * 7 + 86399, Edges.LAST_ATTO);
        julian(desk, 10, 2, -6, 32, 183_999_999_999_999_999L);
    }

    private static void earth() {
        Desk desk = new Desk();
        desk.turn(0, 0.25);
        desk.turn(2, -0.25);
        desk.make(0, 0);
        desk.make(86400 + 32, 5);
        julian(desk, 0, 4, -1, 86368, SECOND / 4);
        julian(desk, 1, 4, 1, 0, 5);
    }

    private static void beyondTheYears() {
        Desk desk = Desks.withOneMoment(Edges.LEAST_SECONDS, 0);
        desk.make(Edges.MOST_SECONDS, Edges.LAST_ATTO);
        julian(desk, 0, 0, -1157408, 51200, 0);
        julian(desk, 0, 1, -1157408, 51168, 0);
        julian(desk, 0, 2, -1157408, 51232, 184_000_000_000_000_000L);
        julian(desk, 0, 3, -1157408, 51181, 0);
        julian(desk, 0, 4, -1157408, 51168, 0);
        julian(desk, 1, 0, 4629629, 54400, Edges.LAST_ATTO);
        julian(desk, 1, 1, 4629629, 54368, Edges.LAST_ATTO);
        julian(desk, 1, 2, 4629629, 54433, 183_999_999_999_999_999L);
        julian(desk, 1, 3, 4629629, 54381, Edges.LAST_ATTO);
        julian(desk, 1, 4, 4629629, 54368, Edges.LAST_ATTO);
    }

    private static void refused(Desk desk, int k, int scale, Class<? extends RuntimeException> want) {
        DUE.refused("julian(" + k + ", " + scale + ")", want, () -> desk.julian(k, scale));
    }

    private static void thereIsNoK() {
        refused(new Desk(), 0, 0, Due.NONE);
        Desk desk = Desks.withMoments(3);
        for (int scale = 0; scale < 5; scale++) {
            refused(desk, 3, scale, Due.NONE);
            for (int k : Edges.FAR_OFF) {
                refused(desk, k, scale, Due.NONE);
            }
        }
        julian(desk, 2, 0, 0, 2, 2);
        Desk full = Desks.withMoments(40);
        julian(full, 39, 0, 0, 39, 39);
        refused(full, 40, 0, Due.NONE);
    }

    private static void noSuchScale() {
        Desk desk = Desks.withMoments(1);
        refused(desk, 0, 5, Due.ARGUMENT);
        for (int scale : Edges.FAR_OFF) {
            refused(desk, 0, scale, Due.ARGUMENT);
        }
        julian(desk, 0, 0, 0, 0, 0);
        julian(desk, 0, 4, -1, 86368, 0);
    }

    private static void order() {
        Desk desk = Desks.withMoments(1);
        refused(desk, 1, 5, Due.NONE);
        refused(desk, -1, -1, Due.NONE);
    }
}
