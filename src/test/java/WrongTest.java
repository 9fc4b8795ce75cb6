/** Promise 13: wrong. */
public final class WrongTest {
    private static final Due DUE = new Due("WrongTest");
    private static final String SOME = "2004-02-29T12:34:56";

    public static void main(String[] args) {
        DUE.sentence("As read() says, of the latest one", WrongTest::ofTheLatest);
        DUE.sentence("-1 if it was a text", WrongTest::itWasAText);
        DUE.sentence("or there was none.", WrongTest::thereWasNone);
        DUE.sentence("no such SCALE (wrong() is -1)", WrongTest::noSuchScale);
        DUE.sentence("no other call than read() changes it", WrongTest::otherCalls);
        DUE.end();
    }

    private static void behind(Desk desk, int scale, String letters, int want) {
        Texts.put(desk, letters);
        Due.answerOf(() -> desk.read(scale));
        DUE.same("wrong() behind read(" + scale + ") of " + letters, desk.wrong(), want);
        DUE.same("wrong() again", desk.wrong(), want);
    }

    private static void ofTheLatest() {
        Desk desk = new Desk();
        behind(desk, 0, "2000-x", 5);
        behind(desk, 0, "", 0);
        behind(desk, 1, "2000-01-01 00", 10);
        behind(desk, 2, SOME + ".", 20);
        behind(desk, 3, SOME + ".1234567890123456789", 38);
        behind(desk, 3, Desks.FULL_TEXT, 38);
        behind(desk, 0, SOME.substring(0, 18), 18);
        behind(desk, 0, "x", 0);
    }

    private static void itWasAText() {
        Desk desk = new Desk();
        behind(desk, 0, "oops", 0);
        behind(desk, 0, SOME, -1);
        behind(desk, 0, "2000x", 4);
        behind(desk, 0, "2000-13-01T00:00:00", -1);
        behind(desk, 0, "2000x", 4);
        behind(desk, 1, "2000-01-01T23:59:60.5", -1);
        Desk full = Desks.withMoments(40);
        behind(full, 0, "2000x", 4);
        behind(full, 0, SOME, -1);
        DUE.same("count(0)", full.count(0), 40L);
    }

    private static void thereWasNone() {
        Desk desk = new Desk();
        DUE.same("wrong() of a new one", desk.wrong(), -1L);
        Texts.put(desk, "oops");
        desk.make(0, 0);
        desk.write(0, 0, 3);
        DUE.same("wrong() while nothing was read", desk.wrong(), -1L);
    }

    private static void noSuchScale() {
        Desk desk = new Desk();
        for (int scale : new int[] {4, 5, -1, Integer.MAX_VALUE, Integer.MIN_VALUE}) {
            behind(desk, 0, "2000x", 4);
            behind(desk, scale, "2000x", -1);
            behind(desk, 0, "2000x", 4);
            behind(desk, scale, SOME, -1);
            behind(desk, 0, "2000x", 4);
            behind(desk, scale, "", -1);
        }
    }

    private static void otherCalls() {
        Desk desk = new Desk();
        behind(desk, 0, "2000-x", 5);
        Due.Call[] calls = {
            () -> desk.leap(0, 33), () -> desk.leap(0, 33), () -> desk.turn(0, 0.5), () -> desk.turn(0, 0.5),
            () -> desk.make(0, 0), () -> desk.make(0, -1), () -> desk.shift(0, 1.0), () -> desk.shift(9, 1.0),
            () -> desk.difference(0, 1), () -> desk.compare(0, 1), () -> desk.date(0, 0, 0), () -> desk.date(0, 5, 0),
            () -> desk.offset(0, 4), () -> desk.julian(0, 4), () -> desk.text('a'), () -> desk.text(0),
            () -> desk.letter(0), () -> desk.letter(1), () -> desk.write(0, 0, 3), () -> desk.write(0, 0, 19),
            () -> desk.seconds(0), () -> desk.attos(0), () -> desk.count(3), () -> desk.count(4),
        };
        for (int i = 0; i < calls.length; i++) {
            Due.answerOf(calls[i]);
            DUE.same("wrong() behind call " + i, desk.wrong(), 5L);
        }
    }
}
