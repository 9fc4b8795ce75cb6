/** Promise 16: seconds. */
public final class SecondsTest {
    private static final Due DUE = new Due("SecondsTest");

    public static void main(String[] args) {
        DUE.sentence("SECONDS of MOMENT k.", SecondsTest::ofMoments);
        DUE.sentence("NoSuchElementException: there is none: no MOMENTS", SecondsTest::noMoments);
        DUE.sentence("NoSuchElementException: there is none: behind the last", SecondsTest::behindTheLast);
        DUE.sentence("NoSuchElementException: there is none: 40 MOMENTS", SecondsTest::forty);
        DUE.end();
    }

    private static void refused(Desk desk, int k) {
        DUE.refused("seconds(" + k + ")", Due.NONE, () -> desk.seconds(k));
    }

    private static void ofMoments() {
        Desk desk = Desks.withOneMoment(-7, 5);
        desk.make(12, Edges.LAST_ATTO);
        desk.make(Edges.LEAST_SECONDS, Edges.LAST_ATTO);
        desk.make(Edges.MOST_SECONDS, Edges.LAST_ATTO);
        DUE.same("seconds(0)", desk.seconds(0), -7L);
        DUE.same("seconds(1)", desk.seconds(1), 12L);
        DUE.same("seconds(2)", desk.seconds(2), Edges.LEAST_SECONDS);
        DUE.same("seconds(3)", desk.seconds(3), Edges.MOST_SECONDS);
        desk.leap(0, 33);
        desk.turn(0, 1.0);
        DUE.same("seconds(0) with rows", desk.seconds(0), -7L);
    }

    private static void noMoments() {
        Desk desk = new Desk();
        refused(desk, 0);
        refused(desk, 1);
        for (int k : Edges.FAR_OFF) {
            refused(desk, k);
        }
    }

    private static void behindTheLast() {
        Desk desk = Desks.withMoments(3);
        DUE.same("seconds(2)", desk.seconds(2), 2L);
        refused(desk, 3);
        refused(desk, 39);
        refused(desk, 40);
        for (int k : Edges.FAR_OFF) {
            refused(desk, k);
        }
    }

    private static void forty() {
        Desk desk = Desks.withMoments(40);
        DUE.same("seconds(39)", desk.seconds(39), 39L);
        refused(desk, 40);
        refused(desk, 41);
        refused(desk, -1);
    }
}
