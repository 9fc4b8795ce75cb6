import java.time.LocalDate;
import java.time.LocalTime;
import java.time.temporal.ChronoUnit;
import java.util.NoSuchElementException;

/** Promise 8: date. */
public final class DateTest {
    private static final Due DUE = new Due("DateTest");
    private static final long SECOND = 1_000_000_000_000_000_000L;
    private static final LocalDate FIRST = LocalDate.of(2000, 1, 1);

    public static void main(String[] args) {
        scalesThatNeverWaver();
        everyDay();
        everySecondOfADay();
        leapSecondThatComes();
        leapSecondThatGoes();
        twoLeapsInARow();
        earth();
        years();
        whatIsWrong();
        DUE.end();
    }

    /** Year, month, day of the month, hour, minute, second, ATTOS, day of the week, day of the year, DAY. */
    private static void due(EpochDesk desk, int k, int scale, String want) {
        StringBuilder got = new StringBuilder();
        for (int what = 0; what < 10; what++) {
            got.append(what == 0 ? "" : " ").append(desk.date(k, scale, what));
        }
        DUE.same("date(" + k + ", " + scale + ", 0 to 9)", got.toString(), want);
    }

    private static void scalesThatNeverWaver() {
        EpochDesk desk = new EpochDesk();
        desk.make(0, 0);
        due(desk, 0, 0, "2000 1 1 0 0 0 0 5 1 0");
        due(desk, 0, 1, "1999 12 31 23 59 28 0 4 365 -1");
        due(desk, 0, 2, "2000 1 1 0 0 32 184000000000000000 5 1 0");
        due(desk, 0, 3, "1999 12 31 23 59 41 0 4 365 -1");
        due(desk, 0, 4, "1999 12 31 23 59 28 0 4 365 -1");
        desk.make(86400L * 59 + 86399, SECOND - 1);
        due(desk, 1, 0, "2000 2 29 23 59 59 999999999999999999 1 60 59");
        due(desk, 1, 2, "2000 3 1 0 0 32 183999999999999999 2 61 60");
        due(desk, 1, 3, "2000 2 29 23 59 40 999999999999999999 1 60 59");
        desk.make(-1, 815_999_999_999_999_999L);
        due(desk, 2, 2, "2000 1 1 0 0 31 999999999999999999 5 1 0");
        desk.make(-33, 816_000_000_000_000_000L);
        due(desk, 3, 2, "2000 1 1 0 0 0 0 5 1 0");
    }

    /** Against the Java library's calendar, which has the Gregorian rules at all times too. */
    private static void everyDay() {
        EpochDesk desk = new EpochDesk();
        int k = 0;
        for (LocalDate day = LocalDate.of(0, 1, 1); day.getYear() <= 9999; day = next(day)) {
            if (k % 40 == 0) {
                desk = new EpochDesk();
            }
            long number = ChronoUnit.DAYS.between(FIRST, day);
            int made = desk.make(86400 * number + 3723, 4);
            due(desk, made, 0, day.getYear() + " " + day.getMonthValue() + " " + day.getDayOfMonth() + " 1 2 3 4 "
                    + (day.getDayOfWeek().getValue() - 1) + " " + day.getDayOfYear() + " " + number);
            k++;
        }
    }

    /** Every day of the years round centuries and the first and last ones, else every eleventh. */
    private static LocalDate next(LocalDate day) {
        int ofCentury = day.getYear() % 100;
        boolean isNear = ofCentury <= 1 || ofCentury == 99 || day.getYear() < 8;
        return day.plusDays(isNear || day.getDayOfMonth() > 27 || day.getDayOfMonth() < 3 ? 1 : 11);
    }

    private static void everySecondOfADay() {
        EpochDesk desk = new EpochDesk();
        for (int passed = 0; passed < 86400; passed++) {
            if (passed % 10 == 0) {
                desk = new EpochDesk();
            }
            int made = desk.make(-86400L + passed, 0);
            String got = desk.date(made, 0, 3) + ":" + desk.date(made, 0, 4) + ":" + desk.date(made, 0, 5);
            LocalTime want = LocalTime.ofSecondOfDay(passed);
            DUE.same("time " + passed, got, want.getHour() + ":" + want.getMinute() + ":" + want.getSecond());
        }
    }

    private static void leapSecondThatComes() {
        EpochDesk desk = new EpochDesk();
        desk.leap(366, 33);
        long begin = 86400L * 366 + 33;
        desk.make(begin - 3, 0);
        desk.make(begin - 2, SECOND - 1);
        desk.make(begin - 1, 0);
        desk.make(begin - 1, SECOND - 1);
        desk.make(begin, 0);
        due(desk, 0, 1, "2000 12 31 23 59 58 0 6 366 365");
        due(desk, 1, 1, "2000 12 31 23 59 59 999999999999999999 6 366 365");
        due(desk, 2, 1, "2000 12 31 23 59 60 0 6 366 365");
        due(desk, 3, 1, "2000 12 31 23 59 60 999999999999999999 6 366 365");
        due(desk, 4, 1, "2001 1 1 0 0 0 0 0 1 366");
        due(desk, 2, 3, "2001 1 1 0 0 13 0 0 1 366");
    }

    private static void leapSecondThatGoes() {
        EpochDesk desk = new EpochDesk();
        desk.leap(366, 31);
        long begin = 86400L * 366 + 31;
        desk.make(begin - 2, 0);
        desk.make(begin - 1, SECOND - 1);
        desk.make(begin, 0);
        due(desk, 0, 1, "2000 12 31 23 59 57 0 6 366 365");
        due(desk, 1, 1, "2000 12 31 23 59 58 999999999999999999 6 366 365");
        due(desk, 2, 1, "2001 1 1 0 0 0 0 0 1 366");
    }

    private static void twoLeapsInARow() {
        EpochDesk desk = new EpochDesk();
        desk.leap(10, 33);
        desk.leap(11, 34);
        desk.leap(12, 33);
        desk.make(86400L * 10 + 32, 7);
        desk.make(86400L * 10 + 33, 7);
        desk.make(86400L * 11 + 33, 7);
        desk.make(86400L * 11 + 34, 7);
        desk.make(86400L * 12 + 32, 7);
        desk.make(86400L * 12 + 33, 7);
        due(desk, 0, 1, "2000 1 10 23 59 60 7 0 10 9");
        due(desk, 1, 1, "2000 1 11 0 0 0 7 1 11 10");
        due(desk, 2, 1, "2000 1 11 23 59 60 7 1 11 10");
        due(desk, 3, 1, "2000 1 12 0 0 0 7 2 12 11");
        due(desk, 4, 1, "2000 1 12 23 59 58 7 2 12 11");
        due(desk, 5, 1, "2000 1 13 0 0 0 7 3 13 12");
    }

    private static void earth() {
        EpochDesk desk = new EpochDesk();
        desk.turn(0, 0.25);
        desk.turn(2, -0.25);
        desk.make(32, 0);
        desk.make(86400 + 32, 0);
        desk.make(2 * 86400 + 32, 1);
        desk.make(43200 + 32, SECOND - 1);
        due(desk, 0, 4, "2000 1 1 0 0 0 250000000000000000 5 1 0");
        due(desk, 1, 4, "2000 1 2 0 0 0 0 6 2 1");
        due(desk, 2, 4, "2000 1 2 23 59 59 750000000000000001 6 2 1");
        // 43200 s + (10^18 - 1) as behind 43201 s: -31.75 - 0.5 * (43201.0 / 172800.0) leaves these ATTOS.
        long attos = (long) ((-31.75 + -0.5 * (43201.0 / 172800.0) + 32.0) * 1.0E18) - 1;
        due(desk, 3, 4, "2000 1 1 12 0 1 " + attos + " 5 1 0");
    }

    private static void years() {
        EpochDesk desk = new EpochDesk();
        long first = -730485L * 86400;
        long behind = 2921940L * 86400;
        desk.make(first, 0);
        desk.make(first - 1, SECOND - 1);
        desk.make(behind - 1, SECOND - 1);
        desk.make(behind, 0);
        desk.make(-100_000_000_000L, 0);
        desk.make(400_000_000_000L, SECOND - 1);
        desk.make(first + 32, 0);
        desk.make(first + 31, SECOND - 1);
        desk.make(behind + 31, SECOND - 1);
        desk.make(behind + 32, 0);
        due(desk, 0, 0, "0 1 1 0 0 0 0 5 1 -730485");
        due(desk, 2, 0, "9999 12 31 23 59 59 999999999999999999 4 365 2921939");
        due(desk, 6, 1, "0 1 1 0 0 0 0 5 1 -730485");
        due(desk, 8, 4, "9999 12 31 23 59 59 999999999999999999 4 365 2921939");
        int[][] beyond = {{1, 0}, {3, 0}, {4, 0}, {5, 0}, {0, 1}, {0, 3}, {0, 4}, {2, 2}, {7, 1}, {9, 1}, {7, 4}, {9, 4}};
        for (int[] row : beyond) {
            for (int what = 0; what < 10; what++) {
                int asked = what;
                String call = "date(" + row[0] + ", " + row[1] + ", " + what + ")";
                DUE.refused(call, ArithmeticException.class, () -> desk.date(row[0], row[1], asked));
            }
        }
    }

    private static void whatIsWrong() {
        EpochDesk desk = new EpochDesk();
        desk.make(400_000_000_000L, 0);
        for (int odd : new int[] {-1, 10, Integer.MAX_VALUE, Integer.MIN_VALUE}) {
            DUE.refused("date(0, 0, " + odd + ")", IllegalArgumentException.class, () -> desk.date(0, 0, odd));
            DUE.refused("date(" + odd + ", 5, 10)", NoSuchElementException.class, () -> desk.date(odd, 5, 10));
        }
        for (int odd : new int[] {-1, 5, Integer.MAX_VALUE, Integer.MIN_VALUE}) {
            DUE.refused("date(0, " + odd + ", 0)", IllegalArgumentException.class, () -> desk.date(0, odd, 0));
        }
        DUE.refused("date(1, 0, 0)", NoSuchElementException.class, () -> desk.date(1, 0, 0));
        DUE.refused("date(0, 0, 0)", ArithmeticException.class, () -> desk.date(0, 0, 0));
    }
}
