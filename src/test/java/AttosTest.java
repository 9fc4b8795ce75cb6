/** Promise 17: attos. */
public final class AttosTest {
    private static final Due DUE = new Due("AttosTest");

    public static void main(String[] args) {
        DUE.sentence("ATTOS of MOMENT k.", AttosTest::ofMoments);
        DUE.sentence("NoSuchElementException likewise: no MOMENTS", AttosTest::noMoments);
        DUE.sentence("NoSuchElementException likewise: behind the last", AttosTest::behindTheLast);
        DUE.sentence("NoSuchElementException likewise: 40 MOMENTS", AttosTest::forty);
        DUE.end();
    }

    private static void refused(Desk desk, int k) {
        DUE.refused("attos(" + k + ")", Due.NONE, () -> desk.attos(k));
    }

    private static void ofMoments() {
        Desk desk = Desks.withOneMoment(-7, 5);
        desk.make(12, Edges.LAST_ATTO);
        desk.make(Edges.LEAST_SECONDS, 0);
        desk.make(Edges.MOST_SECONDS, Edges.LAST_ATTO);
        DUE.same("attos(0)", desk.attos(0), 5L);
        DUE.same("attos(1)", desk.attos(1), Edges.LAST_ATTO);
        DUE.same("attos(2)", desk.attos(2), 0L);
        DUE.same("attos(3)", desk.attos(3), Edges.LAST_ATTO);
        desk.leap(0, 33);
        desk.turn(0, 0.3);
        DUE.same("attos(0) with rows", desk.attos(0), 5L);
    }

    private static void noMoments() {
        Desk desk = new Desk();
        refused(desk, 0);
        refused(desk, 1);
        for (int k : Edges.FAR_OFF) {
            refused(desk, k);
        }
    }

    private static void behindTheLast() {
        Desk desk = Desks.withMoments(3);
        DUE.same("attos(2)", desk.attos(2), 2L);
        refused(desk, 3);
        refused(desk, 39);
        refused(desk, 40);
        for (int k : Edges.FAR_OFF) {
            refused(desk, k);
        }
    }

    private static void forty() {
        Desk desk = Desks.withMoments(40);
        DUE.same("attos(39)", desk.attos(39), 39L);
        refused(desk, 40);
        refused(desk, 41);
        refused(desk, -1);
    }
}
