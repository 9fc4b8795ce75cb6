/** Terms: LEAPS, and the UTC days that they make. */
public final class LeapsTermTest {
    private static final Due DUE = new Due("LeapsTermTest");

    public static void main(String[] args) {
        DUE.sentence("the OFFSET of a DAY is that of the last row whose DAY is not above it", LeapsTermTest::lastRow);
        DUE.sentence("32 before the first", LeapsTermTest::beforeTheFirst);
        DUE.sentence("LEAPS with 20 rows", LeapsTermTest::twentyRows);
        DUE.sentence("UTC day D begins when TAI is 86400 D + OFFSET of D seconds", LeapsTermTest::beginnings);
        DUE.sentence("it ends when the next one begins", LeapsTermTest::ends);
        DUE.sentence("What has passed of it, up to 86400 seconds and more", LeapsTermTest::whatHasPassed);
        DUE.sentence("the first 86399 seconds are told as hours, minutes, seconds as usual", LeapsTermTest::asUsual);
        DUE.sentence("what is behind them as 23:59:59, 23:59:60", LeapsTermTest::whatIsBehind);
        DUE.sentence("(A day that has 86399 seconds has no 23:59:59.)", LeapsTermTest::shortDays);
        DUE.sentence("days that follow one another with a row each", LeapsTermTest::daysInARow);
        DUE.end();
    }

    private static void offset(Desk desk, long seconds, long attos, int want) {
        int k = desk.make(seconds, attos);
        DUE.same("offset on UTC at " + seconds + " " + attos, desk.offset(k, 1), -(double) want);
    }

    private static void told(Desk desk, long seconds, long attos, String want) {
        int k = desk.make(seconds, attos);
        DUE.same("UTC at " + seconds + " " + attos, Texts.written(desk, k, 1, 18), want);
    }

    private static void lastRow() {
        Desk desk = new Desk();
        desk.leap(10, 33);
        desk.leap(20, 34);
        desk.leap(30, 33);
        int[][] rows = {
            {9, 32}, {10, 33}, {11, 33}, {19, 33}, {20, 34}, {21, 34}, {29, 34}, {30, 33}, {31, 33}, {2921939, 33},
        };
        for (int[] row : rows) {
            offset(desk, 86400L * row[0] + row[1], 0, row[1]);
            offset(desk, 86400L * row[0] + row[1] + 86398, Edges.LAST_ATTO, row[1]);
        }
    }

    private static void beforeTheFirst() {
        Desk without = new Desk();
        offset(without, Edges.LEAST_SECONDS, 0, 32);
        offset(without, 0, 0, 32);
        offset(without, Edges.MOST_SECONDS, Edges.LAST_ATTO, 32);
        for (int day : new int[] {Edges.LEAST_DAY, 0, Edges.MOST_DAY}) {
            for (int first : new int[] {31, 33}) {
                Desk desk = new Desk();
                desk.leap(day, first);
                offset(desk, Edges.LEAST_SECONDS, 0, 32);
                offset(desk, 86400L * day + first - 1, Edges.LAST_ATTO, 32);
                offset(desk, 86400L * day + first, 0, first);
                offset(desk, Edges.MOST_SECONDS, Edges.LAST_ATTO, first);
            }
        }
    }

    private static void twentyRows() {
        Desk up = new Desk();
        Desk down = new Desk();
        for (int i = 0; i < 20; i++) {
            up.leap(100 * i, 33 + i);
            down.leap(100 * i, 31 - i);
        }
        for (int i = 0; i < 20; i++) {
            offset(up, 8640000L * i + 33 + i - 1, Edges.LAST_ATTO, 32 + i);
            offset(up, 8640000L * i + 33 + i, 0, 33 + i);
            offset(down, 8640000L * i + 31 - i - 1, Edges.LAST_ATTO, 32 - i);
            offset(down, 8640000L * i + 31 - i, 0, 31 - i);
        }
    }

    private static void beginnings() {
        int[][] rows = {{-730485, 32}, {-1, 32}, {0, 32}, {9, 32}, {10, 33}, {11, 33}, {20, 32}, {2921939, 32}};
        for (int[] row : rows) {
            Desk desk = new Desk();
            desk.leap(10, 33);
            desk.leap(20, 32);
            int at = desk.make(86400L * row[0] + row[1], 0);
            int before = desk.make(86400L * row[0] + row[1] - 1, Edges.LAST_ATTO);
            for (int what = 3; what <= 6; what++) {
                DUE.same("date(.., 1, " + what + ") as DAY " + row[0] + " begins", desk.date(at, 1, what), 0L);
            }
            DUE.same("DAY as DAY " + row[0] + " begins", desk.date(at, 1, 9), row[0]);
            if (row[0] != -730485) {
                DUE.same("DAY an atto before", desk.date(before, 1, 9), row[0] - 1L);
            }
        }
    }

    private static void ends() {
        Desk desk = new Desk();
        desk.leap(10, 33);
        desk.leap(20, 32);
        told(desk, 86400L * 9 + 31, Edges.LAST_ATTO, "2000-01-09T23:59:59.999999999999999999");
        told(desk, 86400L * 9 + 32, 0, "2000-01-10T00:00:00.000000000000000000");
        told(desk, 86400L * 10 + 32, Edges.LAST_ATTO, "2000-01-10T23:59:60.999999999999999999");
        told(desk, 86400L * 10 + 33, 0, "2000-01-11T00:00:00.000000000000000000");
        told(desk, 86400L * 20 + 31, Edges.LAST_ATTO, "2000-01-20T23:59:58.999999999999999999");
        told(desk, 86400L * 20 + 32, 0, "2000-01-21T00:00:00.000000000000000000");
    }

    /** Told by julian, which counts on through the second that has come; the next day begins with nothing passed. */
    private static void whatHasPassed() {
        for (int more = -1; more <= 1; more++) {
            Desk desk = new Desk();
            if (more != 0) {
                desk.leap(10, 32 + more);
            }
            long begin = 86400L * 9 + 32;
            long last = 86399 + more;
            for (long passed : new long[] {0, 1, 43200, last - 1, last}) {
                int k = desk.make(begin + passed, Edges.SECOND / 2);
                double want = (2451544.5 + 9.0) + (passed + 0.5) / 86400.0;
                DUE.same("julian with " + passed + " passed", desk.julian(k, 1), want);
                DUE.same("DAY with " + passed + " passed", desk.date(k, 1, 9), 9L);
            }
            int next = desk.make(begin + last + 1, 0);
            DUE.same("julian of the next day", desk.julian(next, 1), 2451544.5 + 10.0);
            DUE.same("DAY of the next day", desk.date(next, 1, 9), 10L);
        }
    }

    private static void asUsual() {
        String[][] rows = {
            {"0", "00:00:00"}, {"59", "00:00:59"}, {"60", "00:01:00"}, {"3599", "00:59:59"}, {"3600", "01:00:00"},
            {"43199", "11:59:59"}, {"43200", "12:00:00"}, {"82799", "22:59:59"}, {"82800", "23:00:00"},
            {"86339", "23:58:59"}, {"86340", "23:59:00"}, {"86397", "23:59:57"}, {"86398", "23:59:58"},
        };
        for (int offset : new int[] {33, 31, 32}) {
            Desk desk = new Desk();
            if (offset != 32) {
                desk.leap(10, offset);
            }
            for (String[] row : rows) {
                int k = desk.make(86400L * 9 + 32 + Long.parseLong(row[0]), Edges.LAST_ATTO);
                desk.write(k, 1, 0);
                StringBuilder got = new StringBuilder();
                for (int i = 11; i < 19; i++) {
                    got.append((char) desk.letter(i));
                }
                DUE.same("second " + row[0] + " of a UTC day", got.toString(), row[1]);
                DUE.same("its DAY", desk.date(k, 1, 9), 9L);
            }
        }
    }

    private static void whatIsBehind() {
        Desk desk = new Desk();
        desk.leap(10, 33);
        long begin = 86400L * 9 + 32;
        told(desk, begin + 86398, Edges.LAST_ATTO, "2000-01-10T23:59:58.999999999999999999");
        told(desk, begin + 86399, 0, "2000-01-10T23:59:59.000000000000000000");
        told(desk, begin + 86399, Edges.LAST_ATTO, "2000-01-10T23:59:59.999999999999999999");
        told(desk, begin + 86400, 0, "2000-01-10T23:59:60.000000000000000000");
        told(desk, begin + 86400, Edges.LAST_ATTO, "2000-01-10T23:59:60.999999999999999999");
        told(desk, begin + 86401, 0, "2000-01-11T00:00:00.000000000000000000");
        DUE.same("hour of 23:59:60", desk.date(3, 1, 3), 23L);
        DUE.same("minute of 23:59:60", desk.date(3, 1, 4), 59L);
        DUE.same("second of 23:59:60", desk.date(3, 1, 5), 60L);
        DUE.same("day of the week of 23:59:60", desk.date(3, 1, 7), 0L);
        DUE.same("day of the year of 23:59:60", desk.date(3, 1, 8), 10L);
        Desk usual = new Desk();
        told(usual, begin + 86399, Edges.LAST_ATTO, "2000-01-10T23:59:59.999999999999999999");
        told(usual, begin + 86400, 0, "2000-01-11T00:00:00.000000000000000000");
    }

    private static void shortDays() {
        Desk desk = new Desk();
        desk.leap(10, 31);
        long begin = 86400L * 9 + 32;
        told(desk, begin + 86397, Edges.LAST_ATTO, "2000-01-10T23:59:57.999999999999999999");
        told(desk, begin + 86398, 0, "2000-01-10T23:59:58.000000000000000000");
        told(desk, begin + 86398, Edges.LAST_ATTO, "2000-01-10T23:59:58.999999999999999999");
        told(desk, begin + 86399, 0, "2000-01-11T00:00:00.000000000000000000");
        desk.read(1);
        Texts.put(desk, "2000-01-10T23:59:59");
        DUE.refused("read(1) of 23:59:59", Due.STATE, () -> desk.read(1));
        DUE.same("read(1) of 23:59:58", Texts.read(desk, 1, "2000-01-10T23:59:58"), 5L);
        // The days beside it have all their seconds.
        told(desk, begin - 1, 0, "2000-01-09T23:59:59.000000000000000000");
        told(desk, begin + 86398 + 86400, 0, "2000-01-11T23:59:59.000000000000000000");
    }

    private static void daysInARow() {
        Desk desk = new Desk();
        desk.leap(10, 33);
        desk.leap(11, 34);
        desk.leap(12, 33);
        told(desk, 86400L * 10 + 32, 7, "2000-01-10T23:59:60.000000000000000007");
        told(desk, 86400L * 10 + 33, 7, "2000-01-11T00:00:00.000000000000000007");
        told(desk, 86400L * 11 + 33, 7, "2000-01-11T23:59:60.000000000000000007");
        told(desk, 86400L * 11 + 34, 7, "2000-01-12T00:00:00.000000000000000007");
        told(desk, 86400L * 12 + 32, 7, "2000-01-12T23:59:58.000000000000000007");
        told(desk, 86400L * 12 + 33, 7, "2000-01-13T00:00:00.000000000000000007");
    }
}
