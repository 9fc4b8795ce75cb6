/** Promise 15: letter. */
public final class LetterTest {
    private static final Due DUE = new Due("LetterTest");

    public static void main(String[] args) {
        DUE.sentence("Letter k of the text.", LetterTest::letters);
        DUE.sentence("IndexOutOfBoundsException: there is none: no letters", LetterTest::noLetters);
        DUE.sentence("IndexOutOfBoundsException: there is none: behind the last", LetterTest::behindTheLast);
        DUE.sentence("IndexOutOfBoundsException: there is none: 48 letters", LetterTest::fortyEight);
        DUE.sentence("IndexOutOfBoundsException: there is none: a text that became shorter", LetterTest::shorter);
        DUE.end();
    }

    private static void refused(Desk desk, int k) {
        DUE.refused("letter(" + k + ")", Due.BOUNDS, () -> desk.letter(k));
    }

    private static void letters() {
        Desk desk = new Desk();
        Texts.put(desk, " ~aZ09");
        for (int k = 0; k < 6; k++) {
            DUE.same("letter(" + k + ")", desk.letter(k), " ~aZ09".charAt(k));
        }
        DUE.same("letter(0) again", desk.letter(0), 32L);
        DUE.same("count(3)", desk.count(3), 6L);
    }

    private static void noLetters() {
        Desk desk = new Desk();
        refused(desk, 0);
        refused(desk, 1);
        for (int k : Edges.FAR_OFF) {
            refused(desk, k);
        }
    }

    private static void behindTheLast() {
        Desk desk = new Desk();
        Texts.put(desk, "abc");
        DUE.same("letter(0)", desk.letter(0), 'a');
        DUE.same("letter(2)", desk.letter(2), 'c');
        refused(desk, 3);
        refused(desk, 47);
        refused(desk, 48);
        for (int k : Edges.FAR_OFF) {
            refused(desk, k);
        }
    }

    private static void fortyEight() {
        Desk desk = new Desk();
        Texts.put(desk, Desks.FULL_TEXT);
        for (int k = 0; k < 48; k++) {
            DUE.same("letter(" + k + ")", desk.letter(k), Desks.FULL_TEXT.charAt(k));
        }
        refused(desk, 48);
        refused(desk, 49);
        refused(desk, -1);
    }

    private static void shorter() {
        Desk desk = Desks.withOneMoment(0, 0);
        Texts.put(desk, Desks.FULL_TEXT);
        desk.write(0, 0, 18);
        DUE.same("letter(37)", desk.letter(37), '0');
        refused(desk, 38);
        desk.write(0, 0, 1);
        DUE.same("letter(20)", desk.letter(20), '0');
        refused(desk, 21);
        desk.write(0, 0, 0);
        DUE.same("letter(18)", desk.letter(18), '0');
        refused(desk, 19);
        desk.read(0);
        refused(desk, 0);
    }
}
