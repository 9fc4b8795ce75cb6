import java.time.LocalDate;

/** Promise 12: read. */
public final class ReadTest {
    private static final Due DUE = new Due("ReadTest");
    private static final String SOME = "2004-02-29T12:34:56";
    private static final LocalDate FIRST = LocalDate.of(2000, 1, 1);

    public static void main(String[] args) {
        DUE.sentence("The MOMENT whose date on a SCALE the text is", ReadTest::scales);
        DUE.sentence("its number", ReadTest::itsNumber);
        DUE.sentence("years 0 to 9999", ReadTest::years);
        DUE.sentence("perhaps then a dot and 1 to 18 digits, parts of the second", ReadTest::partsOfTheSecond);
        DUE.sentence("(UT1 is not read)", ReadTest::earthIsNotRead);
        DUE.sentence("the text is empty then, whatever comes", ReadTest::theTextIsEmptyThen);
        DUE.sentence("no such SCALE (wrong() is -1)", ReadTest::noSuchScale);
        DUE.sentence("wrong() tells the place of the first letter that can not stand there", ReadTest::wrongLetters);
        DUE.sentence("the first letter that can not stand there: one too many", ReadTest::lettersTooMany);
        DUE.sentence("or its length if it is too short", ReadTest::textsThatAreTooShort);
        DUE.sentence("there is no such month", ReadTest::months);
        DUE.sentence("there is no such day", ReadTest::days);
        DUE.sentence("there is no such hour", ReadTest::hours);
        DUE.sentence("there is no such minute", ReadTest::minutes);
        DUE.sentence("there is no such second (seconds 0 to 59", ReadTest::seconds);
        DUE.sentence("and on UTC 60 just in 23:59 of a day that has it", ReadTest::leapSecondThatComes);
        DUE.sentence("59 not in that of a day that lacks it)", ReadTest::leapSecondThatGoes);
        DUE.sentence("days that have or lack it by the first and the last row there can be", ReadTest::rowsAtTheirBounds);
        DUE.sentence("IndexOutOfBoundsException: there are 40 MOMENTS.", ReadTest::fortyMoments);
        DUE.sentence("the exceptions in the order in which they stand", ReadTest::order);
        DUE.end();
    }

    private static void read(Desk desk, int scale, String letters, long seconds, long attos) {
        String call = "read(" + scale + ") of " + letters;
        int k = desk.count(0);
        DUE.same(call, Texts.read(desk, scale, letters), k);
        DUE.same(call + ": seconds", desk.seconds(k), seconds);
        DUE.same(call + ": attos", desk.attos(k), attos);
        DUE.same(call + ": wrong()", desk.wrong(), -1L);
        DUE.same(call + ": count(3)", desk.count(3), 0L);
        DUE.same(call + ": count(0)", desk.count(0), k + 1);
    }

    private static void read(int scale, String letters, long seconds, long attos) {
        read(new Desk(), scale, letters, seconds, attos);
    }

    private static void refused(
            Desk desk, int scale, String letters, Class<? extends RuntimeException> want, int wrong) {
        String call = "read(" + scale + ") of " + letters;
        int before = desk.count(0);
        Texts.put(desk, letters);
        DUE.refused(call, want, () -> desk.read(scale));
        DUE.same(call + ": wrong()", desk.wrong(), wrong);
        DUE.same(call + ": count(3)", desk.count(3), 0L);
        DUE.same(call + ": count(0)", desk.count(0), before);
    }

    private static void noText(int scale, String letters, int wrong) {
        refused(new Desk(), scale, letters, Due.ARGUMENT, wrong);
    }

    /** On every SCALE that is read, with parts of the second and without. */
    private static void noDate(String letters) {
        for (int scale = 0; scale < 4; scale++) {
            Desk desk = new Desk();
            refused(desk, scale, letters, Due.STATE, -1);
            refused(desk, scale, letters + ".5", Due.STATE, -1);
        }
    }

    private static void scales() {
        long day = 366 + 3 * 365 + 31 + 28;
        long passed = 12 * 3600 + 34 * 60 + 56;
        Desk desk = new Desk();
        read(desk, 0, SOME, 86400 * day + passed, 0);
        read(desk, 1, SOME, 86400 * day + passed + 32, 0);
        read(desk, 2, SOME, 86400 * day + passed - 33, 816_000_000_000_000_000L);
        read(desk, 3, SOME, 86400 * day + passed + 19, 0);
        desk.leap((int) day, 33);
        read(desk, 1, SOME, 86400 * day + passed + 33, 0);
        read(desk, 1, "2004-02-28T12:34:56", 86400 * (day - 1) + passed + 32, 0);
        read(desk, 0, SOME, 86400 * day + passed, 0);
    }

    private static void itsNumber() {
        Desk desk = new Desk();
        DUE.same("the first", Texts.read(desk, 0, SOME), 0L);
        DUE.same("the same again", Texts.read(desk, 0, SOME), 1L);
        desk.make(0, 0);
        DUE.same("behind one that was made", Texts.read(desk, 3, SOME), 3L);
    }

    private static void years() {
        read(0, "0000-01-01T00:00:00", Edges.YEAR_0, 0);
        read(0, "9999-12-31T23:59:59.999999999999999999", Edges.YEAR_10000 - 1, Edges.LAST_ATTO);
        read(1, "0000-01-01T00:00:00", Edges.YEAR_0 + 32, 0);
        read(1, "9999-12-31T23:59:59.999999999999999999", Edges.YEAR_10000 + 31, Edges.LAST_ATTO);
        read(2, "0000-01-01T00:00:00", Edges.YEAR_0 - 33, 816_000_000_000_000_000L);
        read(2, "9999-12-31T23:59:59.999999999999999999", Edges.YEAR_10000 - 33, 815_999_999_999_999_999L);
        read(3, "0000-01-01T00:00:00", Edges.YEAR_0 + 19, 0);
        read(3, "9999-12-31T23:59:59.999999999999999999", Edges.YEAR_10000 + 18, Edges.LAST_ATTO);
        read(0, "0001-01-01T00:00:00", Edges.YEAR_0 + 366 * 86400L, 0);
        read(0, "1999-12-31T23:59:59", -1, 0);
    }

    private static void partsOfTheSecond() {
        String day = "2000-01-01T00:00:00";
        Desk desk = new Desk();
        read(desk, 0, day, 0, 0);
        read(desk, 0, day + ".5", 0, 500_000_000_000_000_000L);
        read(desk, 0, day + ".0", 0, 0);
        read(desk, 0, day + ".05", 0, 50_000_000_000_000_000L);
        read(desk, 0, day + ".123456789012345678", 0, 123_456_789_012_345_678L);
        read(desk, 0, day + ".999999999999999999", 0, 999_999_999_999_999_999L);
        read(desk, 0, day + ".00000000000000001", 0, 10L);
        read(desk, 0, day + ".000000000000000001", 0, 1L);
        read(desk, 2, day + ".184", -32, 0);
        read(desk, 2, day + ".183999999999999999", -33, 999_999_999_999_999_999L);
        for (int digits = 1; digits <= 18; digits++) {
            long attos = Long.parseLong("7".repeat(digits) + "0".repeat(18 - digits));
            read(desk, 3, day + "." + "7".repeat(digits), 19, attos);
        }
    }

    private static void earthIsNotRead() {
        Desk desk = new Desk();
        refused(desk, 4, SOME, Due.ARGUMENT, -1);
        desk.turn(0, 0.5);
        refused(desk, 4, SOME, Due.ARGUMENT, -1);
        refused(desk, 4, SOME + ".5", Due.ARGUMENT, -1);
    }

    private static void theTextIsEmptyThen() {
        emptyBehind(Desks.withMoments(1), 0, SOME, "1");
        emptyBehind(Desks.withMoments(1), 5, SOME, "throws java.lang.IllegalArgumentException");
        emptyBehind(Desks.withMoments(1), 4, SOME, "throws java.lang.IllegalArgumentException");
        emptyBehind(Desks.withMoments(1), 0, SOME + "Z", "throws java.lang.IllegalArgumentException");
        emptyBehind(Desks.withMoments(1), 0, Desks.FULL_TEXT, "throws java.lang.IllegalArgumentException");
        emptyBehind(Desks.withMoments(1), 0, "", "throws java.lang.IllegalArgumentException");
        emptyBehind(Desks.withMoments(1), 0, "2000-13-01T00:00:00", "throws java.lang.IllegalStateException");
        emptyBehind(Desks.withMoments(40), 0, SOME, "throws java.lang.IndexOutOfBoundsException");
    }

    private static void emptyBehind(Desk desk, int scale, String letters, String want) {
        Texts.put(desk, letters);
        DUE.same("read(" + scale + ") of " + letters, Due.answerOf(() -> desk.read(scale)), want);
        DUE.same("count(3)", desk.count(3), 0L);
        DUE.refused("letter(0)", Due.BOUNDS, () -> desk.letter(0));
        DUE.same("text('a')", desk.text('a'), 1L);
        DUE.same("the text", Texts.of(desk), "a");
    }

    private static void noSuchScale() {
        for (int scale : new int[] {4, 5, -1, Integer.MAX_VALUE, Integer.MIN_VALUE}) {
            Desk desk = new Desk();
            refused(desk, scale, SOME, Due.ARGUMENT, -1);
            refused(desk, 0, "oops", Due.ARGUMENT, 0);
            refused(desk, scale, SOME, Due.ARGUMENT, -1);
        }
        Desk desk = new Desk();
        DUE.same("read(0)", Texts.read(desk, 0, SOME), 0L);
        DUE.same("read(3)", Texts.read(desk, 3, SOME), 1L);
    }

    /** Every letter at every place of the longest text. */
    private static void wrongLetters() {
        String longest = "2000-01-01T00:00:00.000000000000000000";
        for (int place = 0; place < longest.length(); place++) {
            boolean isDigit = "-T:.".indexOf(longest.charAt(place)) < 0;
            for (char letter = 32; letter <= 126; letter++) {
                boolean fits = isDigit ? letter >= '0' && letter <= '9' : letter == longest.charAt(place);
                if (!fits) {
                    noText(0, longest.substring(0, place) + letter + longest.substring(place + 1), place);
                }
            }
        }
        // The first of two, and one of a date that is none.
        noText(0, "2000x01x01T00:00:00", 4);
        noText(0, "2000-13-32T99:99:9x", 18);
        noText(0, "2000-1-01T00:00:00", 6);
        noText(0, "-200-01-01T00:00:00", 0);
        noText(0, "200-01-01T00:00:00", 3);
        noText(0, "2000-01-01t00:00:00", 10);
        noText(0, "x", 0);
        noText(0, " " + SOME, 0);
        noText(0, "YYYY-MM-DDThh:mm:ss", 0);
    }

    private static void lettersTooMany() {
        String longest = "2000-01-01T00:00:00.000000000000000000";
        for (int scale = 0; scale < 4; scale++) {
            noText(scale, longest + "0", 38);
            noText(scale, longest + "Z", 38);
            noText(scale, longest + "0123456789", 38);
            noText(scale, SOME + "Z", 19);
            noText(scale, SOME + "0", 19);
            noText(scale, SOME + " ", 19);
            noText(scale, SOME + ",5", 19);
            noText(scale, SOME + "..", 20);
            noText(scale, SOME + ".Z", 20);
            noText(scale, SOME + ".5Z", 21);
            noText(scale, SOME + ".5 ", 21);
            noText(scale, SOME + ".5.", 21);
        }
    }

    private static void textsThatAreTooShort() {
        String text = SOME + ".5";
        for (int scale = 0; scale < 4; scale++) {
            for (int length = 0; length <= 20; length++) {
                if (length != 19) {
                    noText(scale, text.substring(0, length), length);
                }
            }
            DUE.same("the shortest", Texts.read(new Desk(), scale, text.substring(0, 19)), 0L);
            DUE.same("the shortest with a dot", Texts.read(new Desk(), scale, text.substring(0, 21)), 0L);
        }
        noText(0, "2000-99", 7);
        noText(0, "2000-99-99T99:99:99.", 20);
    }

    private static void months() {
        noDate("2000-00-01T00:00:00");
        noDate("2000-13-01T00:00:00");
        noDate("2000-99-01T00:00:00");
        noDate("0000-00-01T00:00:00");
        noDate("9999-13-01T00:00:00");
        read(0, "2000-01-01T00:00:00", 0, 0);
        read(0, "2000-12-01T00:00:00", 335 * 86400L, 0);
    }

    /** The last of every month, and the one behind it, in years of both lengths. */
    private static void days() {
        for (int year : new int[] {0, 4, 100, 400, 1900, 1999, 2000, 2001, 2004, 2100, 2400, 9996, 9999}) {
            for (int month = 1; month <= 12; month++) {
                String before = String.format("%04d-%02d-", year, month);
                int last = LocalDate.of(year, month, 1).lengthOfMonth();
                long day = LocalDate.of(year, month, 1).toEpochDay() - FIRST.toEpochDay();
                read(0, before + "01T00:00:00", 86400 * day, 0);
                read(0, before + last + "T23:59:59", 86400 * (day + last) - 1, 0);
                refused(new Desk(), 0, before + "00T00:00:00", Due.STATE, -1);
                refused(new Desk(), 0, before + (last + 1) + "T00:00:00", Due.STATE, -1);
            }
        }
        noDate("2000-01-00T00:00:00");
        noDate("2000-01-32T00:00:00");
        noDate("2000-01-99T00:00:00");
        noDate("2001-02-29T00:00:00");
        noDate("2000-02-30T00:00:00");
        noDate("1900-02-29T00:00:00");
    }

    private static void hours() {
        read(0, "2000-01-01T00:00:00", 0, 0);
        read(0, "2000-01-01T23:00:00", 23 * 3600, 0);
        noDate("2000-01-01T24:00:00");
        noDate("2000-01-01T24:59:59");
        noDate("2000-01-01T99:00:00");
    }

    private static void minutes() {
        read(0, "2000-01-01T00:59:00", 59 * 60, 0);
        noDate("2000-01-01T00:60:00");
        noDate("2000-01-01T23:60:00");
        noDate("2000-01-01T00:99:00");
    }

    private static void seconds() {
        for (int scale = 0; scale < 4; scale++) {
            DUE.same("second 0", Texts.read(new Desk(), scale, "2000-01-01T23:59:00"), 0L);
            DUE.same("second 59", Texts.read(new Desk(), scale, "2000-01-01T23:59:59"), 0L);
            DUE.same("second 59", Texts.read(new Desk(), scale, "2000-01-01T00:00:59"), 0L);
        }
        noDate("2000-01-01T00:00:60");
        noDate("2000-01-01T23:59:60");
        noDate("2000-01-01T23:59:61");
        noDate("2000-01-01T00:00:99");
        noDate("9999-99-99T99:99:99");
    }

    private static void leapSecondThatComes() {
        Desk desk = new Desk();
        desk.leap(366, 33);
        long comes = 86400L * 366 + 32;
        read(desk, 1, "2000-12-31T23:59:60", comes, 0);
        read(desk, 1, "2000-12-31T23:59:60.75", comes, 750_000_000_000_000_000L);
        read(desk, 1, "2000-12-31T23:59:60.999999999999999999", comes, Edges.LAST_ATTO);
        read(desk, 1, "2000-12-31T23:59:59", comes - 1, 0);
        read(desk, 1, "2001-01-01T00:00:00", comes + 1, 0);
        refused(desk, 1, "2000-12-31T23:59:61", Due.STATE, -1);
        refused(desk, 1, "2000-12-31T23:58:60", Due.STATE, -1);
        refused(desk, 1, "2000-12-31T22:59:60", Due.STATE, -1);
        refused(desk, 1, "2000-12-31T00:00:60", Due.STATE, -1);
        refused(desk, 1, "2000-12-30T23:59:60", Due.STATE, -1);
        refused(desk, 1, "2001-01-01T23:59:60", Due.STATE, -1);
        for (int scale : new int[] {0, 2, 3}) {
            refused(desk, scale, "2000-12-31T23:59:60", Due.STATE, -1);
        }
        DUE.same("difference over the leap second", desk.difference(3, 4), 2.0);
    }

    private static void leapSecondThatGoes() {
        Desk desk = new Desk();
        desk.leap(731, 31);
        long goes = 86400L * 731 + 31;
        refused(desk, 1, "2001-12-31T23:59:59", Due.STATE, -1);
        refused(desk, 1, "2001-12-31T23:59:59.5", Due.STATE, -1);
        refused(desk, 1, "2001-12-31T23:59:60", Due.STATE, -1);
        read(desk, 1, "2001-12-31T23:59:58", goes - 1, 0);
        read(desk, 1, "2001-12-31T23:59:58.999999999999999999", goes - 1, Edges.LAST_ATTO);
        read(desk, 1, "2001-12-31T23:58:59", goes - 60, 0);
        read(desk, 1, "2001-12-31T22:59:59", goes - 3600, 0);
        read(desk, 1, "2001-12-30T23:59:59", goes - 86400, 0);
        read(desk, 1, "2002-01-01T00:00:00", goes, 0);
        read(desk, 1, "2002-01-01T23:59:59", goes + 86399, 0);
        for (int scale : new int[] {0, 3}) {
            read(desk, scale, "2001-12-31T23:59:59", 86400L * 731 - 1 + (scale == 0 ? 0 : 19), 0);
        }
        DUE.same("difference over the second that is not there", desk.difference(0, 5), 1.0);
    }

    private static void rowsAtTheirBounds() {
        for (int day : new int[] {Edges.LEAST_DAY, Edges.MOST_DAY, -1, 0, 1}) {
            String last = FIRST.plusDays(day - 1).toString();
            String next = FIRST.plusDays(day).toString();
            Desk more = new Desk();
            more.leap(day, 33);
            read(more, 1, last + "T23:59:60", 86400L * day + 32, 0);
            read(more, 1, next + "T00:00:00", 86400L * day + 33, 0);
            refused(more, 1, next + "T23:59:60", Due.STATE, -1);
            Desk less = new Desk();
            less.leap(day, 31);
            refused(less, 1, last + "T23:59:59", Due.STATE, -1);
            read(less, 1, last + "T23:59:58", 86400L * day + 30, 0);
            read(less, 1, next + "T23:59:59", 86400L * (day + 1) + 30, 0);
        }
        Desk twenty = new Desk();
        for (int i = 0; i < 20; i++) {
            twenty.leap(i + 1, 33 + i);
        }
        read(twenty, 1, "2000-01-01T23:59:60", 86400 + 32, 0);
        read(twenty, 1, "2000-01-20T23:59:60", 20 * 86400 + 51, 0);
        refused(twenty, 1, "2000-01-21T23:59:60", Due.STATE, -1);
        read(twenty, 1, "2000-01-21T00:00:00", 20 * 86400 + 52, 0);
    }

    private static void fortyMoments() {
        Desk desk = Desks.withMoments(39);
        read(desk, 0, "2000-01-01T00:00:01", 1, 0);
        refused(desk, 0, "2000-01-01T00:00:01", Due.BOUNDS, -1);
        refused(desk, 1, "2000-01-01T00:00:01", Due.BOUNDS, -1);
        refused(desk, 2, "9999-12-31T23:59:59", Due.BOUNDS, -1);
        refused(desk, 3, "0000-01-01T00:00:00", Due.BOUNDS, -1);
        DUE.same("seconds(39)", desk.seconds(39), 1L);
    }

    private static void order() {
        Desk desk = Desks.withMoments(40);
        refused(desk, 0, "2000-01-01T00:00:60", Due.STATE, -1);
        refused(desk, 0, "2000-13-01T00:00:0", Due.ARGUMENT, 18);
        refused(desk, 0, "", Due.ARGUMENT, 0);
        refused(desk, 4, "2000-01-01T00:00:60", Due.ARGUMENT, -1);
        refused(desk, 5, "2000-01-01T00:00:00", Due.ARGUMENT, -1);
        for (int scale : new int[] {4, 5, -1}) {
            Desk other = new Desk();
            refused(other, scale, "oops", Due.ARGUMENT, -1);
            refused(other, scale, "", Due.ARGUMENT, -1);
            refused(other, scale, "2000-13-01T00:00:00", Due.ARGUMENT, -1);
        }
    }
}
