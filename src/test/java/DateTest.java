import java.time.LocalDate;
import java.time.LocalTime;
import java.time.temporal.ChronoUnit;

/** Promise 8: date. */
public final class DateTest {
    private static final Due DUE = new Due("DateTest");
    private static final LocalDate FIRST = LocalDate.of(2000, 1, 1);

    public static void main(String[] args) {
        DUE.sentence("Of the date of MOMENT k on a SCALE", DateTest::scales);
        DUE.sentence("0: year; 1: month; 2: day of the month; 9: DAY", DateTest::everyDay);
        DUE.sentence("3: hour; 4: minute; 5: second", DateTest::everySecondOfADay);
        DUE.sentence("6: ATTOS of it", DateTest::attosOfIt);
        DUE.sentence("7: day of the week (0 Monday; 2000-01-01 was a Saturday)", DateTest::dayOfTheWeek);
        DUE.sentence("8: day of the year, 1 the first", DateTest::dayOfTheYear);
        DUE.sentence("NoSuchElementException: there is no k.", DateTest::thereIsNoK);
        DUE.sentence("IllegalArgumentException: no such SCALE", DateTest::noSuchScale);
        DUE.sentence("or for others.", DateTest::noSuchWhat);
        DUE.sentence("ArithmeticException: the year is not 0 to 9999: TAI", DateTest::yearsOnTai);
        DUE.sentence("ArithmeticException: the year is not 0 to 9999: UTC", DateTest::yearsOnUtc);
        DUE.sentence("ArithmeticException: the year is not 0 to 9999: TT", DateTest::yearsOnTt);
        DUE.sentence("ArithmeticException: the year is not 0 to 9999: GPS", DateTest::yearsOnGps);
        DUE.sentence("ArithmeticException: the year is not 0 to 9999: UT1", DateTest::yearsOnUt1);
        DUE.sentence("ArithmeticException: the year is not 0 to 9999: all MOMENTS beyond", DateTest::yearsFarOff);
        DUE.sentence("the exceptions in the order in which they stand", DateTest::order);
        DUE.end();
    }

    /** Year, month, day of the month, hour, minute, second, ATTOS, day of the week, day of the year, DAY. */
    private static void due(Desk desk, int k, int scale, String want) {
        StringBuilder got = new StringBuilder();
        for (int what = 0; what < 10; what++) {
            got.append(what == 0 ? "" : " ").append(desk.date(k, scale, what));
        }
        DUE.same("date(" + k + ", " + scale + ", 0 to 9)", got.toString(), want);
    }

    private static void scales() {
        Desk desk = Desks.withOneMoment(0, 0);
        due(desk, 0, 0, "2000 1 1 0 0 0 0 5 1 0");
        due(desk, 0, 1, "1999 12 31 23 59 28 0 4 365 -1");
        due(desk, 0, 2, "2000 1 1 0 0 32 184000000000000000 5 1 0");
        due(desk, 0, 3, "1999 12 31 23 59 41 0 4 365 -1");
        due(desk, 0, 4, "1999 12 31 23 59 28 0 4 365 -1");
        desk.make(86400L * 59 + 86399, Edges.LAST_ATTO);
        due(desk, 1, 0, "2000 2 29 23 59 59 999999999999999999 1 60 59");
        due(desk, 1, 2, "2000 3 1 0 0 32 183999999999999999 2 61 60");
        due(desk, 1, 3, "2000 2 29 23 59 40 999999999999999999 1 60 59");
    }

    /** Against the Java library's calendar, which has the Gregorian rules at all times too. */
    private static void everyDay() {
        Desk desk = new Desk();
        int k = 0;
        for (LocalDate day = LocalDate.of(0, 1, 1); day.getYear() <= 9999; day = next(day)) {
            if (k % 40 == 0) {
                desk = new Desk();
            }
            long number = ChronoUnit.DAYS.between(FIRST, day);
            int made = desk.make(86400 * number + 3723, 4);
            due(desk, made, 0, day.getYear() + " " + day.getMonthValue() + " " + day.getDayOfMonth() + " 1 2 3 4 "
                    + (day.getDayOfWeek().getValue() - 1) + " " + day.getDayOfYear() + " " + number);
            k++;
        }
    }

    /** Every day of the years round centuries and the first and last ones, else every eleventh. */
    private static LocalDate next(LocalDate day) {
        int ofCentury = day.getYear() % 100;
        boolean isNear = ofCentury <= 1 || ofCentury == 99 || day.getYear() < 8;
        return day.plusDays(isNear || day.getDayOfMonth() > 27 || day.getDayOfMonth() < 3 ? 1 : 11);
    }

    private static void everySecondOfADay() {
        Desk desk = new Desk();
        for (int passed = 0; passed < 86400; passed++) {
            if (passed % 40 == 0) {
                desk = new Desk();
            }
            int made = desk.make(-86400L + passed, passed % 2 == 0 ? 0 : Edges.LAST_ATTO);
            String got = desk.date(made, 0, 3) + ":" + desk.date(made, 0, 4) + ":" + desk.date(made, 0, 5);
            LocalTime want = LocalTime.ofSecondOfDay(passed);
            DUE.same("time " + passed, got, want.getHour() + ":" + want.getMinute() + ":" + want.getSecond());
        }
    }

    private static void attosOfIt() {
        for (long attos : new long[] {0, 1, 123_456_789_012_345_678L, Edges.LAST_ATTO - 1, Edges.LAST_ATTO}) {
            for (long seconds : new long[] {-1, 0, 86399, -86400}) {
                Desk desk = Desks.withOneMoment(seconds, attos);
                for (int scale : new int[] {0, 1, 3, 4}) {
                    DUE.same("date(0, " + scale + ", 6)", desk.date(0, scale, 6), attos);
                }
                DUE.same("date(0, 2, 6)", desk.date(0, 2, 6), (attos + 184_000_000_000_000_000L) % Edges.SECOND);
            }
        }
    }

    private static void dayOfTheWeek() {
        long[] mondays = {2, -5, 9, -12};
        Desk desk = new Desk();
        for (long monday : mondays) {
            for (int i = 0; i < 7; i++) {
                long number = monday + i;
                DUE.same("day of the week of DAY " + number, desk.date(desk.make(86400 * number, 0), 0, 7), i);
            }
        }
        Desk ends = Desks.withOneMoment(Edges.YEAR_0, 0);
        ends.make(Edges.YEAR_10000 - 1, Edges.LAST_ATTO);
        DUE.same("0000-01-01 was a Saturday", ends.date(0, 0, 7), 5L);
        DUE.same("9999-12-31 is a Friday", ends.date(1, 0, 7), 4L);
    }

    private static void dayOfTheYear() {
        String[][] rows = {
            {"2000-01-01", "1"}, {"2000-12-31", "366"}, {"2001-01-01", "1"}, {"2001-12-31", "365"},
            {"1900-12-31", "365"}, {"0000-01-01", "1"}, {"0000-12-31", "366"}, {"9999-12-31", "365"},
            {"2000-02-28", "59"}, {"2000-02-29", "60"}, {"2000-03-01", "61"}, {"2001-02-28", "59"},
            {"2001-03-01", "60"},
        };
        Desk desk = new Desk();
        for (String[] row : rows) {
            int k = Texts.read(desk, 0, row[0] + "T00:00:00");
            DUE.same("day of the year of " + row[0], desk.date(k, 0, 8), Long.parseLong(row[1]));
        }
    }

    private static void refused(
            Desk desk, int k, int scale, int what, Class<? extends RuntimeException> want) {
        DUE.refused("date(" + k + ", " + scale + ", " + what + ")", want, () -> desk.date(k, scale, what));
    }

    private static void thereIsNoK() {
        refused(new Desk(), 0, 0, 0, Due.NONE);
        Desk desk = Desks.withMoments(3);
        DUE.same("date(2, 0, 5)", desk.date(2, 0, 5), 2L);
        refused(desk, 3, 0, 0, Due.NONE);
        refused(desk, 40, 0, 0, Due.NONE);
        for (int k : Edges.FAR_OFF) {
            refused(desk, k, 0, 0, Due.NONE);
        }
        Desk full = Desks.withMoments(40);
        DUE.same("date(39, 0, 5)", full.date(39, 0, 5), 39L);
        refused(full, 40, 0, 0, Due.NONE);
    }

    private static void noSuchScale() {
        Desk desk = Desks.withMoments(1);
        for (int what = 0; what < 10; what++) {
            refused(desk, 0, 5, what, Due.ARGUMENT);
            for (int scale : Edges.FAR_OFF) {
                refused(desk, 0, scale, what, Due.ARGUMENT);
            }
        }
        DUE.same("date(0, 0, 0)", desk.date(0, 0, 0), 2000L);
        DUE.same("date(0, 4, 0)", desk.date(0, 4, 0), 1999L);
    }

    private static void noSuchWhat() {
        Desk desk = Desks.withMoments(1);
        for (int scale = 0; scale < 5; scale++) {
            refused(desk, 0, scale, 10, Due.ARGUMENT);
            for (int what : Edges.FAR_OFF) {
                refused(desk, 0, scale, what, Due.ARGUMENT);
            }
        }
        DUE.same("date(0, 0, 0)", desk.date(0, 0, 0), 2000L);
        DUE.same("date(0, 0, 9)", desk.date(0, 0, 9), 0L);
    }

    /** The last MOMENT before one, by an atto. */
    private static void yearsBeginAndEnd(Desk desk, int scale, long seconds, long attos, boolean isBeginning) {
        int at = desk.make(seconds, attos);
        int before = attos == 0 ? desk.make(seconds - 1, Edges.LAST_ATTO) : desk.make(seconds, attos - 1);
        int in = isBeginning ? at : before;
        int beyond = isBeginning ? before : at;
        DUE.same("year on " + scale, desk.date(in, scale, 0), isBeginning ? 0L : 9999L);
        DUE.same("day of the year on " + scale, desk.date(in, scale, 8), isBeginning ? 1L : 365L);
        DUE.same("DAY on " + scale, desk.date(in, scale, 9), isBeginning ? -730485L : 2921939L);
        for (int what = 0; what < 10; what++) {
            refused(desk, beyond, scale, what, Due.ARITHMETIC);
        }
    }

    private static void yearsOnTai() {
        Desk desk = new Desk();
        yearsBeginAndEnd(desk, 0, Edges.YEAR_0, 0, true);
        yearsBeginAndEnd(desk, 0, Edges.YEAR_10000, 0, false);
    }

    private static void yearsOnUtc() {
        Desk desk = new Desk();
        yearsBeginAndEnd(desk, 1, Edges.YEAR_0 + 32, 0, true);
        yearsBeginAndEnd(desk, 1, Edges.YEAR_10000 + 32, 0, false);
        Desk up = new Desk();
        Desk down = new Desk();
        for (int i = 0; i < 20; i++) {
            up.leap(Edges.LEAST_DAY + i, 33 + i);
            down.leap(Edges.MOST_DAY - 19 + i, 31 - i);
        }
        yearsBeginAndEnd(up, 1, Edges.YEAR_0 + 32, 0, true);
        yearsBeginAndEnd(up, 1, Edges.YEAR_10000 + 52, 0, false);
        yearsBeginAndEnd(down, 1, Edges.YEAR_0 + 32, 0, true);
        yearsBeginAndEnd(down, 1, Edges.YEAR_10000 + 12, 0, false);
    }

    private static void yearsOnTt() {
        Desk desk = new Desk();
        yearsBeginAndEnd(desk, 2, Edges.YEAR_0 - 33, 816_000_000_000_000_000L, true);
        yearsBeginAndEnd(desk, 2, Edges.YEAR_10000 - 33, 816_000_000_000_000_000L, false);
    }

    private static void yearsOnGps() {
        Desk desk = new Desk();
        yearsBeginAndEnd(desk, 3, Edges.YEAR_0 + 19, 0, true);
        yearsBeginAndEnd(desk, 3, Edges.YEAR_10000 + 19, 0, false);
    }

    private static void yearsOnUt1() {
        Desk withoutRows = new Desk();
        yearsBeginAndEnd(withoutRows, 4, Edges.YEAR_0 + 32, 0, true);
        yearsBeginAndEnd(withoutRows, 4, Edges.YEAR_10000 + 32, 0, false);
        Desk desk = new Desk();
        desk.turn(Edges.LEAST_DAY, 1.0);
        desk.turn(Edges.MOST_DAY, -0.75);
        yearsBeginAndEnd(desk, 4, Edges.YEAR_0 + 31, 0, true);
        yearsBeginAndEnd(desk, 4, Edges.YEAR_10000 + 32, 3 * (Edges.SECOND / 4), false);
    }

    private static void yearsFarOff() {
        Desk desk = Desks.withOneMoment(Edges.LEAST_SECONDS, 0);
        desk.make(Edges.MOST_SECONDS, Edges.LAST_ATTO);
        for (int scale = 0; scale < 5; scale++) {
            for (int what = 0; what < 10; what++) {
                refused(desk, 0, scale, what, Due.ARITHMETIC);
                refused(desk, 1, scale, what, Due.ARITHMETIC);
            }
        }
    }

    private static void order() {
        Desk desk = Desks.withOneMoment(Edges.MOST_SECONDS, 0);
        refused(desk, 1, 5, 0, Due.NONE);
        refused(desk, 1, 0, 10, Due.NONE);
        refused(desk, -1, -1, -1, Due.NONE);
        refused(desk, 0, 5, 0, Due.ARGUMENT);
        refused(desk, 0, -1, 0, Due.ARGUMENT);
        refused(desk, 0, 0, 10, Due.ARGUMENT);
        refused(desk, 0, 0, -1, Due.ARGUMENT);
        refused(desk, 0, 5, 10, Due.ARGUMENT);
    }
}
