/** Promise 7: compare. */
public final class CompareTest {
    private static final Due DUE = new Due("CompareTest");
    private static final long[][] RISING = {
        {Edges.LEAST_SECONDS, 0}, {Edges.LEAST_SECONDS, 1}, {-1, Edges.LAST_ATTO}, {0, 0}, {0, 1}, {0, Edges.LAST_ATTO},
        {1, 0}, {Edges.MOST_SECONDS - 1, Edges.LAST_ATTO}, {Edges.MOST_SECONDS, 0}, {Edges.MOST_SECONDS, Edges.LAST_ATTO},
    };

    public static void main(String[] args) {
        DUE.sentence("-1, 0 or 1 as MOMENT k is before, like or behind MOMENT j.", CompareTest::compares);
        DUE.sentence("like: whichever way they were made", CompareTest::like);
        DUE.sentence("NoSuchElementException likewise.", CompareTest::missing);
        DUE.end();
    }

    private static void compares() {
        Desk desk = new Desk();
        for (long[] row : RISING) {
            desk.make(row[0], row[1]);
        }
        for (int k = 0; k < RISING.length; k++) {
            for (int j = 0; j < RISING.length; j++) {
                DUE.same("compare(" + k + ", " + j + ")", desk.compare(k, j), Integer.compare(k, j));
            }
        }
    }

    private static void like() {
        Desk desk = Desks.withOneMoment(61, Edges.SECOND / 2);
        desk.make(61, Edges.SECOND / 2);
        desk.shift(0, 0.0);
        Texts.read(desk, 0, "2000-01-01T00:01:01.5");
        for (int k = 0; k < 4; k++) {
            for (int j = 0; j < 4; j++) {
                DUE.same("compare(" + k + ", " + j + ")", desk.compare(k, j), 0L);
            }
        }
    }

    private static void missing() {
        Desk empty = new Desk();
        DUE.refused("compare(0, 0)", Due.NONE, () -> empty.compare(0, 0));
        Desk desk = Desks.withMoments(3);
        DUE.same("compare(2, 1)", desk.compare(2, 1), 1L);
        for (int k : new int[] {3, 39, 40, -1, Integer.MAX_VALUE, Integer.MIN_VALUE}) {
            DUE.refused("compare(" + k + ", 0)", Due.NONE, () -> desk.compare(k, 0));
            DUE.refused("compare(0, " + k + ")", Due.NONE, () -> desk.compare(0, k));
            DUE.refused("compare of " + k + " with itself", Due.NONE, () -> desk.compare(k, k));
        }
        Desk full = Desks.withMoments(40);
        DUE.same("compare(0, 39)", full.compare(0, 39), -1L);
        DUE.refused("compare(0, 40)", Due.NONE, () -> full.compare(0, 40));
        DUE.refused("compare(40, 0)", Due.NONE, () -> full.compare(40, 0));
    }
}
