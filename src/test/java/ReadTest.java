/** Promises 12 and 13: read and wrong. */
public final class ReadTest {
    private static final Due DUE = new Due("ReadTest");
    private static final Class<IllegalArgumentException> ARGUMENT = IllegalArgumentException.class;
    private static final Class<IllegalStateException> STATE = IllegalStateException.class;
    private static final Class<IndexOutOfBoundsException> FULL = IndexOutOfBoundsException.class;
    private static final String SOME = "2004-02-29T12:34:56";

    public static void main(String[] args) {
        scales();
        partsOfTheSecond();
        bounds();
        placesOfWrongLetters();
        textsThatAreTooShort();
        datesThatAreNone();
        leapSeconds();
        unreadScales();
        fortyMoments();
        wrongIsOfTheLatest();
        DUE.end();
    }

    private static void read(EpochDesk desk, int scale, String letters, long seconds, long attos) {
        String call = "read(" + scale + ") of " + letters;
        int k = desk.count(0);
        DUE.same(call, Texts.read(desk, scale, letters), k);
        DUE.same(call + ": seconds", desk.seconds(k), seconds);
        DUE.same(call + ": attos", desk.attos(k), attos);
        DUE.same(call + ": wrong()", desk.wrong(), -1L);
        DUE.same(call + ": count(3)", desk.count(3), 0L);
        DUE.same(call + ": count(0)", desk.count(0), k + 1);
    }

    private static void refused(
            EpochDesk desk, int scale, String letters, Class<? extends RuntimeException> want, int wrong) {
        String call = "read(" + scale + ") of " + letters;
        int before = desk.count(0);
        Texts.put(desk, letters);
        DUE.refused(call, want, () -> desk.read(scale));
        DUE.same(call + ": wrong()", desk.wrong(), wrong);
        DUE.same(call + ": count(3)", desk.count(3), 0L);
        DUE.same(call + ": count(0)", desk.count(0), before);
    }

    private static void scales() {
        EpochDesk desk = new EpochDesk();
        long day = 366 + 3 * 365 + 31 + 28;
        long passed = 12 * 3600 + 34 * 60 + 56;
        read(desk, 0, SOME, 86400 * day + passed, 0);
        read(desk, 1, SOME, 86400 * day + passed + 32, 0);
        read(desk, 2, SOME, 86400 * day + passed - 33, 816_000_000_000_000_000L);
        read(desk, 3, SOME, 86400 * day + passed + 19, 0);
        desk.leap((int) day, 33);
        read(desk, 1, SOME, 86400 * day + passed + 33, 0);
        read(desk, 1, "2004-02-28T12:34:56", 86400 * (day - 1) + passed + 32, 0);
        read(desk, 0, SOME, 86400 * day + passed, 0);
    }

    private static void partsOfTheSecond() {
        EpochDesk desk = new EpochDesk();
        String day = "2000-01-01T00:00:00";
        read(desk, 0, day + ".5", 0, 500_000_000_000_000_000L);
        read(desk, 0, day + ".0", 0, 0);
        read(desk, 0, day + ".05", 0, 50_000_000_000_000_000L);
        read(desk, 0, day + ".123456789012345678", 0, 123_456_789_012_345_678L);
        read(desk, 0, day + ".999999999999999999", 0, 999_999_999_999_999_999L);
        read(desk, 0, day + ".00000000000000001", 0, 10L);
        read(desk, 0, day + ".000000000000000001", 0, 1L);
        read(desk, 2, day + ".184", -32, 0);
        read(desk, 2, day + ".183999999999999999", -33, 999_999_999_999_999_999L);
        for (int digits = 1; digits <= 18; digits++) {
            read(desk, 3, day + "." + "7".repeat(digits), 19, Long.parseLong("7".repeat(digits) + "0".repeat(18 - digits)));
        }
    }

    private static void bounds() {
        EpochDesk desk = new EpochDesk();
        read(desk, 0, "0000-01-01T00:00:00", -730485L * 86400, 0);
        read(desk, 0, "0000-02-29T00:00:00", -730426L * 86400, 0);
        read(desk, 0, "9999-12-31T23:59:59", 2921940L * 86400 - 1, 0);
        read(desk, 1, "9999-12-31T23:59:59.9", 2921940L * 86400 + 31, 900_000_000_000_000_000L);
        read(desk, 2, "0000-01-01T00:00:00", -730485L * 86400 - 33, 816_000_000_000_000_000L);
        read(desk, 0, "1900-02-28T00:00:00", -36466L * 86400, 0);
        read(desk, 0, "1999-12-31T23:59:59", -1, 0);
    }

    /** Every letter at every place of the longest text, and a letter too many. */
    private static void placesOfWrongLetters() {
        String longest = "2000-01-01T00:00:00.000000000000000000";
        for (int place = 0; place < longest.length(); place++) {
            char stands = longest.charAt(place);
            for (char letter = 32; letter <= 126; letter++) {
                boolean fits = stands == '0' || stands == '1' || stands == '2' ? letter >= '0' && letter <= '9'
                        : letter == stands;
                if (!fits) {
                    String text = longest.substring(0, place) + letter + longest.substring(place + 1);
                    refused(new EpochDesk(), 0, text, ARGUMENT, place);
                }
            }
        }
        EpochDesk desk = new EpochDesk();
        refused(desk, 0, longest + "0", ARGUMENT, 38);
        refused(desk, 1, longest + "Z", ARGUMENT, 38);
        refused(desk, 2, longest + "0123456789", ARGUMENT, 38);
        refused(desk, 3, SOME + "Z", ARGUMENT, 19);
        refused(desk, 3, SOME + "0", ARGUMENT, 19);
        refused(desk, 3, SOME + ",5", ARGUMENT, 19);
        refused(desk, 3, SOME + "..", ARGUMENT, 20);
        refused(desk, 3, SOME + ".5Z", ARGUMENT, 21);
        refused(desk, 3, SOME + ".5 ", ARGUMENT, 21);
        refused(desk, 0, "2000-1-01T00:00:00", ARGUMENT, 6);
        refused(desk, 0, "-200-01-01T00:00:00", ARGUMENT, 0);
        refused(desk, 0, "200-01-01T00:00:00", ARGUMENT, 3);
        refused(desk, 0, "2000-01-01t00:00:00", ARGUMENT, 10);
        refused(desk, 0, "2000-13-32T99:99:99x", ARGUMENT, 19);
        refused(desk, 0, "x", ARGUMENT, 0);
        refused(desk, 0, " " + SOME, ARGUMENT, 0);
    }

    private static void textsThatAreTooShort() {
        String text = SOME + ".5";
        for (int length = 0; length <= 20; length++) {
            if (length != 19) {
                refused(new EpochDesk(), length % 4, text.substring(0, length), ARGUMENT, length);
            }
        }
        refused(new EpochDesk(), 0, "2000-99", ARGUMENT, 7);
        refused(new EpochDesk(), 0, "2000-99-99T99:99:99.", ARGUMENT, 20);
    }

    private static void datesThatAreNone() {
        String[] none = {
            "2000-00-01T00:00:00", "2000-13-01T00:00:00", "2000-99-01T00:00:00", "2000-01-00T00:00:00",
            "2000-01-32T00:00:00", "2000-04-31T00:00:00", "2000-06-31T00:00:00", "2000-09-31T00:00:00",
            "2000-11-31T00:00:00", "2000-02-30T00:00:00", "2001-02-29T00:00:00", "1900-02-29T00:00:00",
            "2100-02-29T00:00:00", "0100-02-29T00:00:00", "2000-12-32T00:00:00", "2000-01-99T00:00:00",
            "2000-01-01T24:00:00", "2000-01-01T99:00:00", "2000-01-01T00:60:00", "2000-01-01T00:99:00",
            "2000-01-01T00:00:60", "2000-01-01T23:59:60", "2000-01-01T23:59:61", "2000-01-01T00:00:99",
            "0000-00-00T00:00:00", "9999-99-99T99:99:99", "2000-00-01T23:59:59", "2000-01-01T24:59:60",
        };
        EpochDesk desk = new EpochDesk();
        for (int i = 0; i < none.length; i++) {
            refused(desk, i % 4, none[i], STATE, -1);
            refused(desk, 1, none[i] + ".5", STATE, -1);
        }
        String[] last = {
            "01-31", "02-29", "03-31", "04-30", "05-31", "06-30", "07-31", "08-31", "09-30", "10-31", "11-30", "12-31",
        };
        long day = -1;
        for (int month = 0; month < 12; month++) {
            day += Integer.parseInt(last[month].substring(3));
            read(desk, 0, "2000-" + last[month] + "T23:59:59", 86400 * day + 86399, 0);
        }
    }

    private static void leapSeconds() {
        EpochDesk desk = new EpochDesk();
        desk.leap(366, 33);
        desk.leap(731, 32);
        long comes = 86400L * 366 + 32;
        read(desk, 1, "2000-12-31T23:59:60", comes, 0);
        read(desk, 1, "2000-12-31T23:59:60.75", comes, 750_000_000_000_000_000L);
        read(desk, 1, "2000-12-31T23:59:59", comes - 1, 0);
        read(desk, 1, "2001-01-01T00:00:00", comes + 1, 0);
        refused(desk, 1, "2000-12-31T23:59:61", STATE, -1);
        refused(desk, 1, "2000-12-31T23:58:60", STATE, -1);
        refused(desk, 1, "2000-12-31T22:59:60", STATE, -1);
        refused(desk, 1, "2000-12-30T23:59:60", STATE, -1);
        refused(desk, 1, "2001-01-01T23:59:60", STATE, -1);
        for (int scale : new int[] {0, 2, 3}) {
            refused(desk, scale, "2000-12-31T23:59:60", STATE, -1);
        }
        long goes = 86400L * 731 + 32;
        refused(desk, 1, "2001-12-31T23:59:59", STATE, -1);
        refused(desk, 1, "2001-12-31T23:59:59.5", STATE, -1);
        refused(desk, 1, "2001-12-31T23:59:60", STATE, -1);
        read(desk, 1, "2001-12-31T23:59:58", goes - 1, 0);
        read(desk, 1, "2001-12-31T23:58:59", goes - 60, 0);
        read(desk, 1, "2001-12-31T22:59:59", goes - 3600, 0);
        read(desk, 1, "2002-01-01T00:00:00", goes, 0);
        read(desk, 0, "2001-12-31T23:59:59", 86400L * 731 - 1, 0);
        DUE.same("difference over the leap second", desk.difference(2, 3), 2.0);
    }

    private static void unreadScales() {
        EpochDesk desk = new EpochDesk();
        for (int scale : new int[] {4, 5, -1, Integer.MAX_VALUE, Integer.MIN_VALUE}) {
            refused(desk, scale, SOME, ARGUMENT, -1);
            refused(desk, 0, "oops", ARGUMENT, 0);
            refused(desk, scale, "oops", ARGUMENT, -1);
            refused(desk, scale, "", ARGUMENT, -1);
            refused(desk, scale, "2000-13-01T00:00:00", ARGUMENT, -1);
        }
    }

    private static void fortyMoments() {
        EpochDesk desk = new EpochDesk();
        for (int k = 0; k < 39; k++) {
            desk.make(k, k);
        }
        read(desk, 0, "2000-01-01T00:00:01", 1, 0);
        refused(desk, 0, "2000-01-01T00:00:01", FULL, -1);
        refused(desk, 0, "2000-01-01T00:00:60", STATE, -1);
        refused(desk, 0, "2000-01-01T00:00:6", ARGUMENT, 18);
        refused(desk, 4, "2000-01-01T00:00:01", ARGUMENT, -1);
    }

    private static void wrongIsOfTheLatest() {
        EpochDesk desk = new EpochDesk();
        DUE.same("wrong() before any read()", desk.wrong(), -1L);
        refused(desk, 0, "2000-x", ARGUMENT, 5);
        Texts.put(desk, "2000/");
        desk.make(0, 0);
        desk.write(0, 0, 3);
        DUE.same("wrong() while no read() came", desk.wrong(), 5L);
        DUE.same("wrong() again", desk.wrong(), 5L);
        desk.read(0);
        DUE.same("wrong() behind a text", desk.wrong(), -1L);
        refused(desk, 0, "2000-01-01 00", ARGUMENT, 10);
        refused(desk, 0, "2000-13-01T00:00:00", STATE, -1);
    }
}
