/** Terms: the TEXTS of a date, as they are read and written. */
public final class TextTermTest {
    private static final Due DUE = new Due("TextTermTest");
    private static final String SOME = "2004-02-29T12:34:56";

    public static void main(String[] args) {
        DUE.sentence("YYYY-MM-DDThh:mm:ss, digits in place of the letters but T", TextTermTest::form);
        DUE.sentence("perhaps then a dot: none", TextTermTest::withoutDot);
        DUE.sentence("and 1 to 18 digits: 1 and 18", TextTermTest::oneAndEighteen);
        DUE.sentence("and 1 to 18 digits: 0", TextTermTest::noDigits);
        DUE.sentence("and 1 to 18 digits: 19", TextTermTest::nineteen);
        DUE.sentence("parts of the second", TextTermTest::partsOfTheSecond);
        DUE.end();
    }

    private static void read(String letters, String want) {
        for (int scale = 0; scale < 4; scale++) {
            Desk desk = new Desk();
            Texts.put(desk, letters);
            int asked = scale;
            DUE.same("read(" + scale + ") of " + letters, Due.answerOf(() -> desk.read(asked)) + " " + desk.wrong(), want);
        }
    }

    private static void form() {
        read(SOME, "0 -1");
        read("0000-01-01T00:00:00", "0 -1");
        read("9999-12-31T23:59:59", "0 -1");
        String none = "throws java.lang.IllegalArgumentException ";
        read("YYYY-MM-DDThh:mm:ss", none + "0");
        read("2004-02-2912:34:56", none + "10");
        read("2004-02-29 12:34:56", none + "10");
        read("2004/02/29T12:34:56", none + "4");
        read("2004-02-29T12-34-56", none + "13");
        read("20040229T123456", none + "4");
        read("+2004-02-29T12:34:56", none + "0");
        read("2004-2-29T12:34:56", none + "6");
    }

    private static void withoutDot() {
        read(SOME, "0 -1");
        Desk desk = new Desk();
        Texts.read(desk, 0, SOME);
        DUE.same("attos(0)", desk.attos(0), 0L);
        DUE.same("write(0, 0, 0)", Texts.written(desk, 0, 0, 0), SOME);
    }

    private static void oneAndEighteen() {
        for (int digits = 1; digits <= 18; digits++) {
            String letters = SOME + ".123456789012345678".substring(0, 1 + digits);
            read(letters, "0 -1");
            Desk desk = new Desk();
            Texts.read(desk, 0, letters);
            DUE.same("write(0, 0, " + digits + ")", Texts.written(desk, 0, 0, digits), letters);
        }
    }

    private static void noDigits() {
        read(SOME + ".", "throws java.lang.IllegalArgumentException 20");
    }

    private static void nineteen() {
        read(SOME + ".1234567890123456789", "throws java.lang.IllegalArgumentException 38");
        read(SOME + ".0000000000000000000", "throws java.lang.IllegalArgumentException 38");
        Desk desk = Desks.withOneMoment(0, 0);
        DUE.refused("write(0, 0, 19)", Due.ARGUMENT, () -> desk.write(0, 0, 19));
    }

    private static void partsOfTheSecond() {
        String[][] rows = {
            {".0", "0"}, {".1", "100000000000000000"}, {".9", "900000000000000000"}, {".01", "10000000000000000"},
            {".10", "100000000000000000"}, {".000000000000000000", "0"}, {".000000000000000001", "1"},
            {".00000000000000001", "10"}, {".999999999999999999", "999999999999999999"},
        };
        for (String[] row : rows) {
            Desk desk = new Desk();
            Texts.read(desk, 0, SOME + row[0]);
            DUE.same("attos of " + row[0], desk.attos(0), Long.parseLong(row[1]));
            DUE.same("second of " + row[0], desk.date(0, 0, 5), 56L);
        }
    }
}
