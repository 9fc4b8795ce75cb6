/** Terms: the SCALES, and what one has more than TAI. */
public final class ScaleTermTest {
    private static final Due DUE = new Due("ScaleTermTest");

    public static void main(String[] args) {
        DUE.sentence("SCALES: 0 TAI to 4 UT1, and no other", ScaleTermTest::fiveScales);
        DUE.sentence("0 TAI", ScaleTermTest::tai);
        DUE.sentence("2 TT: 32 seconds and 184 * 10^15 ATTOS more than TAI", ScaleTermTest::tt);
        DUE.sentence("3 GPS: 19 seconds less", ScaleTermTest::gps);
        DUE.sentence("A date on a SCALE but UTC is that of TAI with as much more", ScaleTermTest::asMuchMore);
        DUE.sentence("each day has 86400 seconds", ScaleTermTest::daysOf86400Seconds);
        DUE.sentence("read on a SCALE but UTC", ScaleTermTest::reads);
        DUE.end();
    }

    private static void fiveScales() {
        for (int scale : new int[] {-1, 0, 4, 5, Integer.MAX_VALUE, Integer.MIN_VALUE}) {
            Desk desk = Desks.withOneMoment(100, 0);
            boolean isOne = scale == 0 || scale == 4;
            taken(isOne, "date(0, " + scale + ", 0)", () -> desk.date(0, scale, 0));
            taken(isOne, "offset(0, " + scale + ")", () -> desk.offset(0, scale));
            taken(isOne, "julian(0, " + scale + ")", () -> desk.julian(0, scale));
            taken(isOne, "write(0, " + scale + ", 0)", () -> desk.write(0, scale, 0));
        }
        for (int scale : new int[] {-1, 0, 3, 4, 5, Integer.MAX_VALUE, Integer.MIN_VALUE}) {
            Desk desk = new Desk();
            Texts.put(desk, "2000-01-01T00:00:00");
            taken(scale == 0 || scale == 3, "read(" + scale + ")", () -> desk.read(scale));
        }
    }

    private static void taken(boolean isTaken, String call, Due.Call made) {
        String answer = Due.answerOf(made);
        DUE.same(call, answer.startsWith("throws") ? answer : "an answer",
                isTaken ? "an answer" : "throws java.lang.IllegalArgumentException");
    }

    private static void written(long seconds, long attos, int scale, String want) {
        Desk desk = Desks.withOneMoment(seconds, attos);
        DUE.same("write on " + scale, Texts.written(desk, 0, scale, 18), want);
        if (scale != 4) {
            DUE.same("read on " + scale, desk.read(scale), 1L);
            DUE.same("seconds(1)", desk.seconds(1), seconds);
            DUE.same("attos(1)", desk.attos(1), attos);
        }
    }

    private static void tai() {
        written(0, 0, 0, "2000-01-01T00:00:00.000000000000000000");
        written(-1, Edges.LAST_ATTO, 0, "1999-12-31T23:59:59.999999999999999999");
        written(86399, Edges.LAST_ATTO, 0, "2000-01-01T23:59:59.999999999999999999");
        written(86400, 0, 0, "2000-01-02T00:00:00.000000000000000000");
    }

    /** ATTOS up to 815 999.. make no further second, and ATTOS from 816 000.. do. */
    private static void tt() {
        written(0, 0, 2, "2000-01-01T00:00:32.184000000000000000");
        written(0, 815_999_999_999_999_999L, 2, "2000-01-01T00:00:32.999999999999999999");
        written(0, 816_000_000_000_000_000L, 2, "2000-01-01T00:00:33.000000000000000000");
        written(0, Edges.LAST_ATTO, 2, "2000-01-01T00:00:33.183999999999999999");
        written(-33, 815_999_999_999_999_999L, 2, "1999-12-31T23:59:59.999999999999999999");
        written(-33, 816_000_000_000_000_000L, 2, "2000-01-01T00:00:00.000000000000000000");
        written(86400 - 33, 815_999_999_999_999_999L, 2, "2000-01-01T23:59:59.999999999999999999");
    }

    private static void gps() {
        written(0, 0, 3, "1999-12-31T23:59:41.000000000000000000");
        written(18, Edges.LAST_ATTO, 3, "1999-12-31T23:59:59.999999999999999999");
        written(19, 0, 3, "2000-01-01T00:00:00.000000000000000000");
        written(86418, Edges.LAST_ATTO, 3, "2000-01-01T23:59:59.999999999999999999");
        written(86419, 0, 3, "2000-01-02T00:00:00.000000000000000000");
    }

    /** Number by number, as text and as Julian date, like the MOMENT that is behind by as much on TAI. */
    private static void asMuchMore() {
        long[][] moments = {
            {0, 0}, {86367, 816_000_000_000_000_000L}, {951_782_400 - 32, 1}, {Edges.YEAR_0 + 40, Edges.LAST_ATTO},
            {Edges.YEAR_10000 - 40, Edges.LAST_ATTO}, {10 * Edges.DAY + 32, 5},
        };
        for (long[] moment : moments) {
            for (int offset : new int[] {33, 31}) {
                isLikeTai(moment, offset, 0, 0, 0);
                isLikeTai(moment, offset, 2, 32, 184_000_000_000_000_000L);
                isLikeTai(moment, offset, 3, -19, 0);
                isLikeTai(moment, offset, 4, -32, 250_000_000_000_000_000L);
            }
        }
    }

    /** With a row of LEAPS behind the only row of TURNS, so that UT1 has -31.75 seconds more throughout. */
    private static void isLikeTai(long[] moment, int offset, int scale, long seconds, long attos) {
        Desk desk = Desks.withOneMoment(moment[0], moment[1]);
        desk.turn(5, 0.25);
        desk.leap(10, offset);
        long sum = moment[1] + attos;
        desk.make(moment[0] + seconds + sum / Edges.SECOND, sum % Edges.SECOND);
        String on = " on " + scale + " at " + moment[0];
        for (int what = 0; what <= 9; what++) {
            DUE.same("date " + what + on, desk.date(0, scale, what), desk.date(1, 0, what));
        }
        DUE.same("julian" + on, desk.julian(0, scale), desk.julian(1, 0));
        DUE.same("text" + on, Texts.written(desk, 0, scale, 18), Texts.written(desk, 1, 0, 18));
    }

    /** Also round a DAY of the LEAPS, whether a second comes there or goes. */
    private static void daysOf86400Seconds() {
        long[] first = {0, 0, 0, 19, 0};
        for (int offset : new int[] {33, 31}) {
            for (int scale : new int[] {0, 3}) {
                Desk desk = new Desk();
                desk.leap(10, offset);
                for (int day = 9; day <= 11; day++) {
                    desk.make(86400L * day + first[scale], 0);
                    desk.make(86400L * day + first[scale] + 86399, Edges.LAST_ATTO);
                }
                for (int k = 0; k < 6; k++) {
                    String want = "2000-01-" + (10 + k / 2)
                            + (k % 2 == 0 ? "T00:00:00.000000000000000000" : "T23:59:59.999999999999999999");
                    DUE.same("write on " + scale, Texts.written(desk, k, scale, 18), want);
                }
            }
        }
        Desk earth = new Desk();
        earth.leap(10, 33);
        // On UTC this is 23:59:60 of DAY 9; on UT1, 32 seconds behind TAI on that day, DAY 10 has begun.
        earth.make(864032, 0);
        DUE.same("write on UTC", Texts.written(earth, 0, 1, 0), "2000-01-10T23:59:60");
        DUE.same("write on UT1", Texts.written(earth, 0, 4, 0), "2000-01-11T00:00:00");
    }

    private static void reads() {
        for (int offset : new int[] {33, 31}) {
            for (int scale : new int[] {0, 2, 3}) {
                Desk desk = new Desk();
                desk.leap(10, offset);
                DUE.same("23:59:59", Texts.read(desk, scale, "2000-01-10T23:59:59"), 0L);
                DUE.same("00:00:00", Texts.read(desk, scale, "2000-01-11T00:00:00"), 1L);
                DUE.same("difference", desk.difference(0, 1), 1.0);
                Texts.put(desk, "2000-01-10T23:59:60");
                DUE.refused("23:59:60", Due.STATE, () -> desk.read(scale));
            }
        }
    }
}
