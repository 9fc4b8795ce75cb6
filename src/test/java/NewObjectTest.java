/** Promise 1: a new object. */
public final class NewObjectTest {
    private static final Due DUE = new Due("NewObjectTest");

    public static void main(String[] args) {
        DUE.sentence("No MOMENTS", NewObjectTest::noMoments);
        DUE.sentence("No LEAPS", NewObjectTest::noLeaps);
        DUE.sentence("No TURNS", NewObjectTest::noTurns);
        DUE.sentence("no letters", NewObjectTest::noLetters);
        DUE.sentence("A new object, whatever others were used for", NewObjectTest::objectsAreApart);
        DUE.end();
    }

    private static void noMoments() {
        Desk desk = new Desk();
        DUE.same("count(0)", desk.count(0), 0L);
        DUE.refused("seconds(0)", Due.NONE, () -> desk.seconds(0));
        DUE.refused("attos(0)", Due.NONE, () -> desk.attos(0));
        DUE.refused("shift(0, 0.0)", Due.NONE, () -> desk.shift(0, 0.0));
        DUE.refused("difference(0, 0)", Due.NONE, () -> desk.difference(0, 0));
        DUE.refused("compare(0, 0)", Due.NONE, () -> desk.compare(0, 0));
        DUE.refused("date(0, 0, 0)", Due.NONE, () -> desk.date(0, 0, 0));
        DUE.refused("offset(0, 0)", Due.NONE, () -> desk.offset(0, 0));
        DUE.refused("julian(0, 0)", Due.NONE, () -> desk.julian(0, 0));
        DUE.refused("write(0, 0, 0)", Due.NONE, () -> desk.write(0, 0, 0));
        DUE.same("make(0, 0)", desk.make(0, 0), 0L);
    }

    private static void noLeaps() {
        Desk desk = new Desk();
        DUE.same("count(1)", desk.count(1), 0L);
        for (long seconds : new long[] {Edges.LEAST_SECONDS, -1, 0, 31, 32, Edges.MOST_SECONDS}) {
            DUE.same("offset on UTC at " + seconds, desk.offset(desk.make(seconds, 0), 1), -32.0);
        }
        DUE.same("leap(-700000, 31)", desk.leap(Edges.LEAST_DAY, 31), 1L);
    }

    private static void noTurns() {
        Desk desk = new Desk();
        DUE.same("count(2)", desk.count(2), 0L);
        for (long seconds : new long[] {Edges.LEAST_SECONDS, -1, 0, 31, 32, Edges.MOST_SECONDS}) {
            DUE.same("offset on UT1 at " + seconds, desk.offset(desk.make(seconds, 0), 4), -32.0);
        }
        DUE.same("turn(-700000, 1.0)", desk.turn(Edges.LEAST_DAY, 1.0), 1L);
    }

    private static void noLetters() {
        Desk desk = new Desk();
        DUE.same("count(3)", desk.count(3), 0L);
        DUE.same("wrong()", desk.wrong(), -1L);
        DUE.refused("letter(0)", Due.BOUNDS, () -> desk.letter(0));
        DUE.refused("read(0)", Due.ARGUMENT, () -> desk.read(0));
        DUE.same("wrong() behind read(0)", desk.wrong(), 0L);
        DUE.same("text('a')", desk.text('a'), 1L);
    }

    private static void objectsAreApart() {
        String asNew = Seen.of(new Desk());
        Desk older = new Desk();
        Desk used = Desks.full();
        DUE.same("a desk that is older than one in use", Seen.of(older), asNew);
        DUE.same("a desk that is newer than one in use", Seen.of(new Desk()), asNew);
        String before = Seen.of(used);
        older.make(3, 4);
        older.leap(0, 33);
        older.turn(0, 0.5);
        older.text('a');
        DUE.same("the desk in use", Seen.of(used), before);
    }
}
