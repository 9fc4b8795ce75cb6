/** Promise 6: difference. */
public final class DifferenceTest {
    private static final Due DUE = new Due("DifferenceTest");
    private static final long SECOND = Edges.SECOND;

    public static void main(String[] args) {
        DUE.sentence("How many seconds MOMENT j is behind MOMENT k", DifferenceTest::behind);
        DUE.sentence("the difference of SECONDS as a real", DifferenceTest::extremes);
        DUE.sentence("and added to it that of ATTOS as a real times 1.0E-18", DifferenceTest::attos);
        DUE.sentence("NoSuchElementException: there is no k", DifferenceTest::thereIsNoK);
        DUE.sentence("or no j", DifferenceTest::thereIsNoJ);
        DUE.end();
    }

    private static void difference(long seconds, long attos, long laterSeconds, long laterAttos, double want) {
        Desk desk = Desks.withOneMoment(seconds, attos);
        desk.make(laterSeconds, laterAttos);
        String call = "difference from " + seconds + " " + attos + " to " + laterSeconds + " " + laterAttos;
        DUE.same(call, desk.difference(0, 1), want);
    }

    private static void behind() {
        difference(0, 0, 0, 0, 0.0);
        difference(10, 5, 10, 5, 0.0);
        difference(0, 0, 10, SECOND / 2, 10.5);
        difference(10, SECOND / 2, 0, 0, -10.5);
        difference(-3, 0, 4, 0, 7.0);
        Desk desk = Desks.withOneMoment(Edges.MOST_SECONDS, Edges.LAST_ATTO);
        DUE.same("difference(0, 0)", desk.difference(0, 0), 0.0);
    }

    private static void extremes() {
        long least = Edges.LEAST_SECONDS;
        long most = Edges.MOST_SECONDS;
        difference(least, 0, most, 0, 5.0E11);
        difference(most, 0, least, 0, -5.0E11);
        difference(least, SECOND - 1, most, 3, 5.0E11 + (double) (3 - (SECOND - 1)) * 1.0E-18);
        difference(most, 3, least, SECOND - 1, -5.0E11 + (double) (SECOND - 1 - 3) * 1.0E-18);
        difference(least, 0, most, SECOND - 1, 5.0E11 + 1.0);
    }

    private static void attos() {
        difference(0, 0, 0, 1, 1.0E-18);
        difference(0, 1, 0, 0, -1.0E-18);
        difference(0, 0, 0, SECOND - 1, (double) (SECOND - 1) * 1.0E-18);
        difference(0, SECOND - 1, 0, 0, (double) (1 - SECOND) * 1.0E-18);
        difference(10, SECOND / 2, 11, 1, 1.0 + (double) (1 - SECOND / 2) * 1.0E-18);
        difference(11, 1, 10, SECOND / 2, -1.0 + (double) (SECOND / 2 - 1) * 1.0E-18);
        // One atto apart over the turn of a second: 1 less what is told as 1.
        difference(0, SECOND - 1, 1, 0, 1.0 + (double) (1 - SECOND) * 1.0E-18);
        // Times 1.0E-18 is not divided by 1.0E18: this is where the two part.
        difference(0, 0, 0, 3, 3.0 * 1.0E-18);
        DUE.isTrue("3.0 * 1.0E-18 is not 3.0 / 1.0E18", 3.0 * 1.0E-18 != 3.0 / 1.0E18);
    }

    private static void thereIsNoK() {
        Desk empty = new Desk();
        DUE.refused("difference(0, 0)", Due.NONE, () -> empty.difference(0, 0));
        Desk desk = Desks.withMoments(3);
        DUE.same("difference(2, 0)", desk.difference(2, 0), -2.0 + -2.0 * 1.0E-18);
        for (int k : new int[] {3, 39, 40, -1, Integer.MAX_VALUE, Integer.MIN_VALUE}) {
            DUE.refused("difference(" + k + ", 0)", Due.NONE, () -> desk.difference(k, 0));
            DUE.refused("difference of " + k + " to itself", Due.NONE, () -> desk.difference(k, k));
        }
        Desk full = Desks.withMoments(40);
        DUE.same("difference(39, 39)", full.difference(39, 39), 0.0);
        DUE.refused("difference(40, 0)", Due.NONE, () -> full.difference(40, 0));
    }

    private static void thereIsNoJ() {
        Desk desk = Desks.withMoments(3);
        DUE.same("difference(0, 2)", desk.difference(0, 2), 2.0 + 2.0 * 1.0E-18);
        for (int j : new int[] {3, 39, 40, -1, Integer.MAX_VALUE, Integer.MIN_VALUE}) {
            DUE.refused("difference(0, " + j + ")", Due.NONE, () -> desk.difference(0, j));
        }
        Desk full = Desks.withMoments(40);
        DUE.refused("difference(0, 40)", Due.NONE, () -> full.difference(0, 40));
    }
}
