/** Promise 18: count. */
public final class CountTest {
    private static final Due DUE = new Due("CountTest");

    public static void main(String[] args) {
        DUE.sentence("What 0: MOMENTS", CountTest::moments);
        DUE.sentence("1: LEAPS", CountTest::leaps);
        DUE.sentence("2: TURNS", CountTest::turns);
        DUE.sentence("3: letters of the text.", CountTest::letters);
        DUE.sentence("IllegalArgumentException for others.", CountTest::others);
        DUE.end();
    }

    private static void counts(Desk desk, String want) {
        String got = desk.count(0) + " " + desk.count(1) + " " + desk.count(2) + " " + desk.count(3);
        DUE.same("count(0 to 3)", got, want);
    }

    private static void moments() {
        Desk desk = new Desk();
        counts(desk, "0 0 0 0");
        desk.make(0, 0);
        counts(desk, "1 0 0 0");
        desk.shift(0, 1.0);
        counts(desk, "2 0 0 0");
        Texts.read(desk, 0, "2000-01-01T00:00:00");
        counts(desk, "3 0 0 0");
        for (int k = 3; k < 40; k++) {
            desk.make(0, 0);
        }
        counts(desk, "40 0 0 0");
        DUE.refused("make(0, 0)", Due.BOUNDS, () -> desk.make(0, 0));
        counts(desk, "40 0 0 0");
    }

    private static void leaps() {
        Desk desk = new Desk();
        for (int i = 0; i < 20; i++) {
            desk.leap(i, 33 + i);
            counts(desk, "0 " + (i + 1) + " 0 0");
        }
        DUE.refused("leap(20, 53)", Due.BOUNDS, () -> desk.leap(20, 53));
        counts(desk, "0 20 0 0");
    }

    private static void turns() {
        Desk desk = new Desk();
        for (int i = 0; i < 20; i++) {
            desk.turn(i, 0.0);
            counts(desk, "0 0 " + (i + 1) + " 0");
        }
        DUE.refused("turn(20, 0.0)", Due.BOUNDS, () -> desk.turn(20, 0.0));
        counts(desk, "0 0 20 0");
    }

    private static void letters() {
        Desk desk = new Desk();
        for (int i = 1; i <= 48; i++) {
            desk.text('a');
            counts(desk, "0 0 0 " + i);
        }
        DUE.refused("text('a')", Due.BOUNDS, () -> desk.text('a'));
        counts(desk, "0 0 0 48");
        desk.make(0, 0);
        desk.write(0, 0, 2);
        counts(desk, "1 0 0 22");
        desk.read(0);
        counts(desk, "2 0 0 0");
    }

    private static void others() {
        for (Desk desk : new Desk[] {new Desk(), Desks.some(), Desks.full()}) {
            DUE.refused("count(4)", Due.ARGUMENT, () -> desk.count(4));
            for (int what : Edges.FAR_OFF) {
                DUE.refused("count(" + what + ")", Due.ARGUMENT, () -> desk.count(what));
            }
        }
        counts(Desks.some(), "14 3 3 22");
        counts(Desks.full(), "40 20 20 48");
    }
}
