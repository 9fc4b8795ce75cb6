/** Promise 14: write. */
public final class WriteTest {
    private static final Due DUE = new Due("WriteTest");
    private static final long SECOND = Edges.SECOND;

    public static void main(String[] args) {
        DUE.sentence("The text is the date of MOMENT k on a SCALE", WriteTest::scales);
        DUE.sentence("The text is the date: whatever it was", WriteTest::theTextIsReplaced);
        DUE.sentence("the date in a second that comes, or beside one that goes", WriteTest::leapSeconds);
        DUE.sentence("with so many digits of parts", WriteTest::digits);
        DUE.sentence("(0: no dot", WriteTest::noDot);
        DUE.sentence("what is behind them is cut)", WriteTest::cut);
        DUE.sentence("how many letters", WriteTest::howMany);
        DUE.sentence("NoSuchElementException likewise", WriteTest::thereIsNoK);
        DUE.sentence("IllegalArgumentException likewise: no such SCALE", WriteTest::noSuchScale);
        DUE.sentence("IllegalArgumentException (digits not 0 to 18, too)", WriteTest::digitsHaveBounds);
        DUE.sentence("ArithmeticException likewise", WriteTest::years);
        DUE.sentence("the exceptions in the order in which they stand", WriteTest::order);
        DUE.sentence("what is written is read as the same MOMENT", WriteTest::readAgain);
        DUE.end();
    }

    private static void written(Desk desk, int k, int scale, int digits, String want) {
        String call = "write(" + k + ", " + scale + ", " + digits + ")";
        DUE.same(call, desk.write(k, scale, digits), want.length());
        DUE.same(call + ": the text", Texts.of(desk), want);
    }

    private static void refused(Desk desk, int k, int scale, int digits, Class<? extends RuntimeException> want) {
        int before = desk.count(3);
        String call = "write(" + k + ", " + scale + ", " + digits + ")";
        DUE.refused(call, want, () -> desk.write(k, scale, digits));
        DUE.same(call + ": count(3)", desk.count(3), before);
    }

    private static Desk withText(Desk desk) {
        Texts.put(desk, "this stays");
        return desk;
    }

    private static void stayed(Desk desk) {
        DUE.same("the text", Texts.of(desk), "this stays");
    }

    private static void scales() {
        Desk desk = Desks.withOneMoment(0, 0);
        written(desk, 0, 0, 0, "2000-01-01T00:00:00");
        written(desk, 0, 1, 0, "1999-12-31T23:59:28");
        written(desk, 0, 2, 0, "2000-01-01T00:00:32");
        written(desk, 0, 2, 4, "2000-01-01T00:00:32.1840");
        written(desk, 0, 3, 1, "1999-12-31T23:59:41.0");
        written(desk, 0, 4, 1, "1999-12-31T23:59:28.0");
        desk.turn(0, -0.5);
        written(desk, 0, 4, 2, "1999-12-31T23:59:27.50");
        desk.make(-710000L * 86400 + 3600 * 13 + 60 * 14 + 15, 0);
        written(desk, 1, 0, 0, "0056-02-01T13:14:15");
    }

    private static void theTextIsReplaced() {
        Desk desk = Desks.withOneMoment(0, 0);
        written(desk, 0, 0, 0, "2000-01-01T00:00:00");
        Desk full = Desks.withOneMoment(0, 0);
        Texts.put(full, "x".repeat(48));
        written(full, 0, 0, 0, "2000-01-01T00:00:00");
        written(full, 0, 0, 18, "2000-01-01T00:00:00.000000000000000000");
        written(full, 0, 0, 1, "2000-01-01T00:00:00.0");
        DUE.same("text behind it", full.text('7'), 22L);
        DUE.same("the text", Texts.of(full), "2000-01-01T00:00:00.07");
        DUE.same("read(0)", full.read(0), 1L);
        DUE.same("attos(1)", full.attos(1), 70_000_000_000_000_000L);
    }

    private static void leapSeconds() {
        Desk desk = new Desk();
        desk.leap(366, 33);
        desk.leap(731, 32);
        desk.make(86400L * 366 + 32, SECOND / 2);
        desk.make(86400L * 731 + 31, SECOND / 2);
        written(desk, 0, 1, 1, "2000-12-31T23:59:60.5");
        written(desk, 0, 4, 1, "2001-01-01T00:00:00.5");
        written(desk, 1, 1, 1, "2001-12-31T23:59:58.5");
        written(desk, 1, 0, 1, "2002-01-01T00:00:31.5");
    }

    private static void digits() {
        String parts = "987654321012345678";
        for (int digits = 1; digits <= 18; digits++) {
            Desk desk = Desks.withOneMoment(61, Long.parseLong(parts));
            written(desk, 0, 0, digits, "2000-01-01T00:01:01." + parts.substring(0, digits));
            desk.make(61, 1_000);
            written(desk, 1, 0, digits, "2000-01-01T00:01:01." + "000000000000001000".substring(0, digits));
            desk.make(61, 0);
            written(desk, 2, 0, digits, "2000-01-01T00:01:01." + "0".repeat(digits));
        }
    }

    private static void noDot() {
        Desk desk = Desks.withOneMoment(61, 0);
        desk.make(61, 1);
        desk.make(61, Edges.LAST_ATTO);
        for (int k = 0; k < 3; k++) {
            written(desk, k, 0, 0, "2000-01-01T00:01:01");
        }
    }

    private static void cut() {
        Desk desk = Desks.withOneMoment(86399, Edges.LAST_ATTO);
        desk.make(0, 49_999_999_999_999_999L);
        desk.make(0, 50_000_000_000_000_000L);
        desk.make(Edges.YEAR_10000 - 1, Edges.LAST_ATTO);
        written(desk, 0, 0, 0, "2000-01-01T23:59:59");
        written(desk, 0, 0, 1, "2000-01-01T23:59:59.9");
        written(desk, 0, 0, 17, "2000-01-01T23:59:59.99999999999999999");
        written(desk, 0, 0, 18, "2000-01-01T23:59:59.999999999999999999");
        written(desk, 1, 0, 1, "2000-01-01T00:00:00.0");
        written(desk, 2, 0, 1, "2000-01-01T00:00:00.0");
        written(desk, 2, 0, 2, "2000-01-01T00:00:00.05");
        written(desk, 3, 0, 0, "9999-12-31T23:59:59");
    }

    private static void howMany() {
        Desk desk = Desks.withOneMoment(0, 0);
        DUE.same("write(0, 0, 0)", desk.write(0, 0, 0), 19L);
        DUE.same("count(3)", desk.count(3), 19L);
        for (int digits = 1; digits <= 18; digits++) {
            DUE.same("write(0, 0, " + digits + ")", desk.write(0, 0, digits), 20L + digits);
            DUE.same("count(3)", desk.count(3), 20L + digits);
        }
    }

    private static void thereIsNoK() {
        refused(new Desk(), 0, 0, 0, Due.NONE);
        Desk desk = withText(Desks.withMoments(3));
        for (int k : new int[] {3, 39, 40, -1, Integer.MAX_VALUE, Integer.MIN_VALUE}) {
            refused(desk, k, 0, 0, Due.NONE);
        }
        stayed(desk);
        written(desk, 2, 0, 0, "2000-01-01T00:00:02");
        Desk full = Desks.withMoments(40);
        refused(full, 40, 0, 0, Due.NONE);
        written(full, 39, 0, 0, "2000-01-01T00:00:39");
    }

    private static void noSuchScale() {
        Desk desk = withText(Desks.withMoments(1));
        for (int scale : new int[] {5, -1, Integer.MAX_VALUE, Integer.MIN_VALUE}) {
            refused(desk, 0, scale, 0, Due.ARGUMENT);
            refused(desk, 0, scale, 18, Due.ARGUMENT);
        }
        stayed(desk);
        written(desk, 0, 4, 0, "1999-12-31T23:59:28");
    }

    private static void digitsHaveBounds() {
        Desk desk = withText(Desks.withMoments(1));
        for (int scale = 0; scale < 5; scale++) {
            for (int digits : new int[] {-1, 19, Integer.MAX_VALUE, Integer.MIN_VALUE}) {
                refused(desk, 0, scale, digits, Due.ARGUMENT);
            }
        }
        stayed(desk);
        written(desk, 0, 0, 18, "2000-01-01T00:00:00.000000000000000000");
        written(desk, 0, 0, 0, "2000-01-01T00:00:00");
    }

    /** On each SCALE the first MOMENT of year 0 and that of year 10000, with the attoseconds before them. */
    private static void years() {
        long[][] first = {{0, 0}, {32, 0}, {-33, 816_000_000_000_000_000L}, {19, 0}, {32, 0}};
        for (int scale = 0; scale < 5; scale++) {
            Desk desk = new Desk();
            for (long year : new long[] {Edges.YEAR_0, Edges.YEAR_10000}) {
                long seconds = year + first[scale][0];
                long attos = first[scale][1];
                desk.make(attos == 0 ? seconds - 1 : seconds, (attos == 0 ? SECOND : attos) - 1);
                desk.make(seconds, attos);
            }
            withText(desk);
            refused(desk, 0, scale, 18, Due.ARITHMETIC);
            refused(desk, 3, scale, 18, Due.ARITHMETIC);
            refused(desk, 0, scale, 0, Due.ARITHMETIC);
            refused(desk, 3, scale, 0, Due.ARITHMETIC);
            stayed(desk);
            written(desk, 1, scale, 18, "0000-01-01T00:00:00.000000000000000000");
            written(desk, 2, scale, 18, "9999-12-31T23:59:59.999999999999999999");
        }
    }

    private static void order() {
        Desk desk = withText(Desks.withOneMoment(Edges.YEAR_10000, 0));
        refused(desk, 1, 5, 0, Due.NONE);
        refused(desk, 1, 0, 19, Due.NONE);
        refused(desk, -1, -1, -1, Due.NONE);
        refused(desk, 0, 5, 0, Due.ARGUMENT);
        refused(desk, 0, -1, 0, Due.ARGUMENT);
        refused(desk, 0, 0, 19, Due.ARGUMENT);
        refused(desk, 0, 0, -1, Due.ARGUMENT);
        refused(desk, 0, 5, 19, Due.ARGUMENT);
        refused(desk, 0, 0, 0, Due.ARITHMETIC);
        stayed(desk);
    }

    private static void readAgain() {
        Desk desk = new Desk();
        desk.leap(366, 33);
        desk.leap(731, 32);
        desk.make(86400L * 366 + 32, 1);
        desk.make(86400L * 731 + 31, Edges.LAST_ATTO);
        desk.make(Edges.YEAR_0 + 32, 0);
        desk.make(Edges.YEAR_10000 - 33, 815_999_999_999_999_999L);
        for (int k = 0; k < 4; k++) {
            for (int scale = 0; scale < 4; scale++) {
                desk.write(k, scale, 18);
                DUE.same("compare on " + scale, desk.compare(k, desk.read(scale)), 0L);
            }
        }
    }
}
