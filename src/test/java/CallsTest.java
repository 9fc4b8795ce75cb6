/** "An object is used for at most 512 calls after it has been made": the 512th answers as the first does. */
public final class CallsTest {
    private static final Due DUE = new Due("CallsTest");
    private static final String SOME = "2000-01-01T00:00:07";

    public static void main(String[] args) {
        DUE.sentence("512 calls of leap", CallsTest::leaps);
        DUE.sentence("512 calls of turn", CallsTest::turns);
        DUE.sentence("512 calls of make", CallsTest::makes);
        DUE.sentence("512 calls of shift", CallsTest::shifts);
        DUE.sentence("512 calls of text", CallsTest::texts);
        DUE.sentence("512 calls of text and read", CallsTest::reads);
        DUE.sentence("512 calls of write", CallsTest::writes);
        DUE.sentence("512 calls of what changes nothing", CallsTest::questions);
        DUE.sentence("the 512th call of each kind", CallsTest::theLastCall);
        DUE.end();
    }

    private static void leaps() {
        Desk desk = new Desk();
        for (int i = 0; i < Desk.MOST_CALLS; i++) {
            int day = i;
            int offset = i < 20 ? 33 + i : 53;
            String want = i < 20 ? String.valueOf(i + 1) : "throws java.lang.IndexOutOfBoundsException";
            DUE.same("leap " + i, Due.answerOf(() -> desk.leap(day, offset)), want);
        }
    }

    private static void turns() {
        Desk desk = new Desk();
        for (int i = 0; i < Desk.MOST_CALLS; i++) {
            int day = i;
            String want = i < 20 ? String.valueOf(i + 1) : "throws java.lang.IndexOutOfBoundsException";
            DUE.same("turn " + i, Due.answerOf(() -> desk.turn(day, 0.5)), want);
        }
    }

    private static void makes() {
        Desk desk = new Desk();
        for (int i = 0; i < Desk.MOST_CALLS; i++) {
            long seconds = i;
            String want = i < 40 ? String.valueOf(i) : "throws java.lang.IndexOutOfBoundsException";
            DUE.same("make " + i, Due.answerOf(() -> desk.make(seconds, 0)), want);
        }
    }

    private static void shifts() {
        Desk desk = Desks.withOneMoment(0, 0);
        for (int i = 1; i < Desk.MOST_CALLS; i++) {
            int k = Math.min(i, 40) - 1;
            String want = i < 40 ? String.valueOf(i) : "throws java.lang.IndexOutOfBoundsException";
            DUE.same("shift " + i, Due.answerOf(() -> desk.shift(k, 0.5)), want);
        }
    }

    private static void texts() {
        Desk desk = new Desk();
        for (int i = 0; i < Desk.MOST_CALLS; i++) {
            String want = i < 48 ? String.valueOf(i + 1) : "throws java.lang.IndexOutOfBoundsException";
            DUE.same("text " + i, Due.answerOf(() -> desk.text('a')), want);
        }
    }

    private static void reads() {
        Desk desk = new Desk();
        for (int i = 0; i < Desk.MOST_CALLS / 4; i++) {
            String want = i < 40 ? String.valueOf(i) : "throws java.lang.IndexOutOfBoundsException";
            DUE.same("text and read " + i, Due.answerOf(() -> Texts.read(desk, 0, SOME)), want);
        }
        DUE.same("calls left", desk.callsLeft(), 0L);
    }

    private static void writes() {
        Desk desk = Desks.withOneMoment(0, 0);
        for (int i = 1; i < Desk.MOST_CALLS; i++) {
            DUE.same("write " + i, desk.write(0, i % 5, i % 19), i % 19 == 0 ? 19L : 20L + i % 19);
        }
    }

    private static void questions() {
        Desk desk = Desks.some();
        String first = answers(desk, 20);
        for (int i = 0; i < 20; i++) {
            DUE.same("the same questions again", answers(desk, 20), first);
        }
    }

    private static String answers(Desk desk, int many) {
        StringBuilder built = new StringBuilder();
        for (int i = 0; i < many; i++) {
            int k = i % 14;
            switch (i % 10) {
                case 0: built.append(desk.seconds(k)); break;
                case 1: built.append(desk.attos(k)); break;
                case 2: built.append(desk.compare(k, 3)); break;
                case 3: built.append(desk.difference(k, 5)); break;
                case 4: built.append(desk.offset(k, 4)); break;
                case 5: built.append(desk.julian(k, 1)); break;
                case 6: built.append(Due.answerOf(() -> desk.date(k, 1, 5))); break;
                case 7: built.append(desk.letter(k)); break;
                case 8: built.append(desk.wrong()); break;
                default: built.append(desk.count(i / 10)); break;
            }
            built.append(' ');
        }
        return built.toString();
    }

    /** A desk with a call left, whatever it was used for before. */
    private static Desk withOneCallLeft() {
        Desk desk = Desks.some();
        for (int i = 0; desk.callsLeft() > 1; i++) {
            int k = i % 9;
            switch (i % 6) {
                case 0: desk.offset(k, 4); break;
                case 1: desk.julian(k, 1); break;
                case 2: desk.date(k, 4, i % 10); break;
                case 3: desk.difference(k, 0); break;
                case 4: Due.answerOf(() -> desk.leap(0, 32)); break;
                default: desk.count(3); break;
            }
        }
        return desk;
    }

    private static void theLastCall() {
        DUE.same("leap", withOneCallLeft().leap(31, 34), 4L);
        DUE.same("turn", withOneCallLeft().turn(26, 0.5), 4L);
        DUE.same("make", withOneCallLeft().make(0, 0), 14L);
        DUE.same("shift", withOneCallLeft().shift(0, 1.0), 14L);
        DUE.same("difference", withOneCallLeft().difference(4, 5), 1.0);
        DUE.same("compare", withOneCallLeft().compare(4, 5), -1L);
        DUE.same("date", withOneCallLeft().date(4, 1, 5), 60L);
        DUE.same("offset", withOneCallLeft().offset(4, 1), -32.0);
        DUE.same("julian", withOneCallLeft().julian(9, 1), 2451569.5);
        DUE.same("text", withOneCallLeft().text('5'), 23L);
        DUE.same("read", withOneCallLeft().read(1), 14L);
        DUE.same("wrong", withOneCallLeft().wrong(), Desks.SOME_WRONG);
        DUE.same("write", withOneCallLeft().write(0, 0, 18), 38L);
        DUE.same("letter", withOneCallLeft().letter(21), '5');
        DUE.same("seconds", withOneCallLeft().seconds(13), Edges.MOST_SECONDS);
        DUE.same("attos", withOneCallLeft().attos(13), Edges.LAST_ATTO);
        DUE.same("count", withOneCallLeft().count(0), 14L);
        Desk desk = withOneCallLeft();
        DUE.refused("a refused one", Due.NONE, () -> desk.seconds(14));
    }
}
