/** Terms: DAYS by the Gregorian rules, and the years that dates are of. */
public final class DayTermTest {
    private static final Due DUE = new Due("DayTermTest");

    public static void main(String[] args) {
        DUE.sentence("DAYS are numbered from 2000-01-01, which is 0", DayTermTest::numbered);
        DUE.sentence("by the Gregorian rules (also before they held)", DayTermTest::beforeTheyHeld);
        DUE.sentence("years that 4 divides have 366 days", () -> lengths(new int[] {0, 4, 8, 1996, 2004, 2096, 9996}, 366));
        DUE.sentence("and no others", () -> lengths(new int[] {1, 2, 3, 5, 1997, 1998, 1999, 2001, 9997, 9998, 9999}, 365));
        DUE.sentence("but those that 100 and not 400 divides", DayTermTest::centuries);
        DUE.sentence("years that 400 divides", () -> lengths(new int[] {0, 400, 800, 1200, 1600, 2000, 2400, 9600}, 366));
        DUE.sentence("every year from 0 to 9999", DayTermTest::everyYear);
        DUE.sentence("Dates are of years 0 to 9999.", DayTermTest::years);
        DUE.end();
    }

    private static void numbered() {
        Desk desk = new Desk();
        DUE.same("DAY of 2000-01-01", desk.date(Texts.read(desk, 0, "2000-01-01T00:00:00"), 0, 9), 0L);
        DUE.same("DAY of its end", desk.date(desk.make(86399, Edges.LAST_ATTO), 0, 9), 0L);
        DUE.same("DAY of 2000-01-02", desk.date(desk.make(86400, 0), 0, 9), 1L);
        DUE.same("DAY of 1999-12-31", desk.date(desk.make(-1, Edges.LAST_ATTO), 0, 9), -1L);
        DUE.same("DAY of its beginning", desk.date(desk.make(-86400, 0), 0, 9), -1L);
        DUE.same("DAY of 1999-12-30", desk.date(desk.make(-86401, Edges.LAST_ATTO), 0, 9), -2L);
        DUE.same("DAY of 2000-12-31", desk.date(Texts.read(desk, 0, "2000-12-31T23:59:59"), 0, 9), 365L);
        DUE.same("DAY of 0000-01-01", desk.date(Texts.read(desk, 0, "0000-01-01T00:00:00"), 0, 9), -730485L);
        DUE.same("DAY of 9999-12-31", desk.date(Texts.read(desk, 0, "9999-12-31T00:00:00"), 0, 9), 2921939L);
    }

    private static void follows(String day, String next) {
        Desk desk = new Desk();
        int k = Texts.read(desk, 0, day + "T23:59:59.999999999999999999");
        desk.shift(k, 1.0E-18);
        DUE.same("the day behind " + day, Texts.written(desk, 1, 0, 18), next + "T00:00:00.000000000000000000");
    }

    private static void beforeTheyHeld() {
        follows("1582-10-04", "1582-10-05");
        follows("1582-10-14", "1582-10-15");
        follows("1500-02-28", "1500-03-01");
        follows("1000-02-28", "1000-03-01");
        follows("1200-02-28", "1200-02-29");
        follows("0000-02-28", "0000-02-29");
        follows("0000-02-29", "0000-03-01");
        follows("0000-12-31", "0001-01-01");
        follows("0100-02-28", "0100-03-01");
        follows("0004-02-28", "0004-02-29");
    }

    private static void lengths(int[] years, int days) {
        for (int year : years) {
            Desk desk = new Desk();
            String text = String.format("%04d", year);
            DUE.same("day of the year of the last of " + text,
                    desk.date(Texts.read(desk, 0, text + "-12-31T00:00:00"), 0, 8), days);
            Texts.put(desk, text + "-02-29T00:00:00");
            DUE.same("read of " + text + "-02-29", Due.answerOf(() -> desk.read(0)),
                    days == 366 ? "1" : "throws java.lang.IllegalStateException");
            follows(text + "-02-28", text + (days == 366 ? "-02-29" : "-03-01"));
        }
    }

    private static void centuries() {
        for (int century = 0; century < 100; century++) {
            if (century % 4 != 0) {
                lengths(new int[] {100 * century}, 365);
            }
        }
    }

    /** The DAY that each year begins with, by adding up their lengths. */
    private static void everyYear() {
        Desk desk = new Desk();
        long day = -730485;
        for (int year = 0; year <= 9999; year++) {
            if (year % 40 == 0) {
                desk = new Desk();
            }
            boolean isLong = year % 400 == 0 || year % 4 == 0 && year % 100 != 0;
            int k = Texts.read(desk, 0, String.format("%04d-12-31T00:00:00", year));
            DUE.same("DAY of the last of " + year, desk.date(k, 0, 9), day + (isLong ? 365 : 364));
            DUE.same("its day of the year", desk.date(k, 0, 8), isLong ? 366L : 365L);
            day += isLong ? 366 : 365;
        }
        DUE.same("days to 10000-01-01", day, 2921940L);
    }

    /** Beyond them a MOMENT has no date, and still all else. */
    private static void years() {
        Desk desk = Desks.withOneMoment(Edges.YEAR_0, 0);
        desk.make(Edges.YEAR_0 - 1, Edges.LAST_ATTO);
        desk.make(Edges.YEAR_10000 - 1, Edges.LAST_ATTO);
        desk.make(Edges.YEAR_10000, 0);
        DUE.same("year", desk.date(0, 0, 0), 0L);
        DUE.same("year", desk.date(2, 0, 0), 9999L);
        DUE.refused("date(1, 0, 0)", Due.ARITHMETIC, () -> desk.date(1, 0, 0));
        DUE.refused("date(3, 0, 0)", Due.ARITHMETIC, () -> desk.date(3, 0, 0));
        DUE.refused("write(1, 0, 0)", Due.ARITHMETIC, () -> desk.write(1, 0, 0));
        DUE.refused("write(3, 0, 0)", Due.ARITHMETIC, () -> desk.write(3, 0, 0));
        DUE.same("write(0, 0, 0)", Texts.written(desk, 0, 0, 0), "0000-01-01T00:00:00");
        DUE.same("write(2, 0, 0)", Texts.written(desk, 2, 0, 0), "9999-12-31T23:59:59");
        DUE.same("seconds(3)", desk.seconds(3), Edges.YEAR_10000);
        DUE.same("compare(2, 3)", desk.compare(2, 3), -1L);
        DUE.same("difference(1, 0)", desk.difference(1, 0), 1.0 + (double) (1 - Edges.SECOND) * 1.0E-18);
        DUE.same("offset(3, 0)", desk.offset(3, 0), 0.0);
        DUE.same("julian(3, 0)", desk.julian(3, 0), 2451544.5 + 2921940.0);
        // On UTC it is 9999 still.
        DUE.same("write(3, 1, 0)", Texts.written(desk, 3, 1, 0), "9999-12-31T23:59:28");
    }
}
