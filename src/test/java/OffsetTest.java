/** Promise 9: offset. What it tells where rows of LEAPS and TURNS begin stands in LeapsTermTest and TurnsTermTest. */
public final class OffsetTest {
    private static final Due DUE = new Due("OffsetTest");

    public static void main(String[] args) {
        DUE.sentence("SCALE less TAI at MOMENT k in seconds, as a real", OffsetTest::withoutRows);
        DUE.sentence("UTC: minus the OFFSET of its day", OffsetTest::coordinated);
        DUE.sentence("TT: 32.184", OffsetTest::terrestrial);
        DUE.sentence("UT1: as said, not yet turned into seconds and ATTOS", OffsetTest::notYetTurned);
        DUE.sentence("a MOMENT whose year is not 0 to 9999", OffsetTest::beyondTheYears);
        DUE.sentence("NoSuchElementException likewise", OffsetTest::thereIsNoK);
        DUE.sentence("IllegalArgumentException likewise", OffsetTest::noSuchScale);
        DUE.sentence("the exceptions in the order in which they stand", OffsetTest::order);
        DUE.end();
    }

    private static void offset(Desk desk, int k, int scale, double want) {
        DUE.same("offset(" + k + ", " + scale + ")", desk.offset(k, scale), want);
    }

    private static void withoutRows() {
        Desk desk = Desks.withOneMoment(1000, 1000);
        offset(desk, 0, 0, 0.0);
        offset(desk, 0, 1, -32.0);
        offset(desk, 0, 2, 32.184);
        offset(desk, 0, 3, -19.0);
        offset(desk, 0, 4, -32.0);
    }

    private static void coordinated() {
        Desk desk = new Desk();
        desk.leap(10, 33);
        desk.leap(20, 32);
        desk.leap(21, 31);
        long[][] rows = {
            {864032, 32}, {864033, 33}, {1728031, 33}, {1728032, 32}, {1814430, 32}, {1814431, 31},
            {Edges.MOST_SECONDS, 31}, {Edges.LEAST_SECONDS, 32},
        };
        for (int k = 0; k < rows.length; k++) {
            desk.make(rows[k][0], k % 2 == 0 ? Edges.LAST_ATTO : 0);
            offset(desk, k, 1, -(double) rows[k][1]);
        }
    }

    private static void terrestrial() {
        Desk desk = Desks.some();
        for (int k = 0; k < desk.count(0); k++) {
            offset(desk, k, 0, 0.0);
            offset(desk, k, 2, 32.184);
            offset(desk, k, 3, -19.0);
        }
    }

    /** A real that whole attoseconds can not tell. */
    private static void notYetTurned() {
        Desk desk = new Desk();
        desk.turn(0, 0.1);
        desk.turn(1, 0.2);
        double x = 0.1 - 32.0;
        double y = 0.2 - 32.0;
        offset(desk, desk.make(32, 0), 4, x);
        offset(desk, desk.make(33, 0), 4, x + (y - x) * (1.0 / 86400.0));
        offset(desk, desk.make(32 + 86400, 0), 4, y);
    }

    private static void beyondTheYears() {
        Desk desk = Desks.withOneMoment(Edges.LEAST_SECONDS, 0);
        desk.make(Edges.YEAR_0 - 1, Edges.LAST_ATTO);
        desk.make(Edges.YEAR_10000 + 32, 0);
        desk.make(Edges.MOST_SECONDS, Edges.LAST_ATTO);
        for (int k = 0; k < 4; k++) {
            offset(desk, k, 0, 0.0);
            offset(desk, k, 1, -32.0);
            offset(desk, k, 2, 32.184);
            offset(desk, k, 3, -19.0);
            offset(desk, k, 4, -32.0);
        }
    }

    private static void refused(Desk desk, int k, int scale, Class<? extends RuntimeException> want) {
        DUE.refused("offset(" + k + ", " + scale + ")", want, () -> desk.offset(k, scale));
    }

    private static void thereIsNoK() {
        refused(new Desk(), 0, 0, Due.NONE);
        Desk desk = Desks.withMoments(3);
        for (int scale = 0; scale < 5; scale++) {
            refused(desk, 3, scale, Due.NONE);
            for (int k : Edges.FAR_OFF) {
                refused(desk, k, scale, Due.NONE);
            }
        }
        offset(desk, 2, 0, 0.0);
        Desk full = Desks.withMoments(40);
        offset(full, 39, 3, -19.0);
        refused(full, 40, 0, Due.NONE);
    }

    private static void noSuchScale() {
        Desk desk = Desks.withMoments(1);
        refused(desk, 0, 5, Due.ARGUMENT);
        for (int scale : Edges.FAR_OFF) {
            refused(desk, 0, scale, Due.ARGUMENT);
        }
        offset(desk, 0, 0, 0.0);
        offset(desk, 0, 4, -32.0);
    }

    private static void order() {
        Desk desk = Desks.withMoments(1);
        refused(desk, 1, 5, Due.NONE);
        refused(desk, -1, -1, Due.NONE);
    }
}
