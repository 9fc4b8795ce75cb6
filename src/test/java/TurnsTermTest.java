/** Terms: TURNS, and UT1 less TAI by them. */
public final class TurnsTermTest {
    private static final Due DUE = new Due("TurnsTermTest");

    public static void main(String[] args) {
        DUE.sentence("without rows minus the OFFSET of its UTC day, as a real", TurnsTermTest::withoutRows);
        DUE.sentence("before the first row its X", TurnsTermTest::beforeTheFirst);
        DUE.sentence("and at or behind the last one, its X", TurnsTermTest::atOrBehindTheLast);
        DUE.sentence("with one row", TurnsTermTest::oneRow);
        DUE.sentence("with 20 rows", TurnsTermTest::twentyRows);
        DUE.sentence("V (UT1 less UTC as the UTC DAY begins)", TurnsTermTest::lessUtcAsDaysBegin);
        DUE.sentence("X is V less the OFFSET of that DAY", TurnsTermTest::valueLessOffset);
        DUE.sentence("X is V less the OFFSET: -1 and 1", TurnsTermTest::leastAndMostValue);
        DUE.sentence("else, between rows: where they begin", TurnsTermTest::whereRowsBegin);
        DUE.sentence("X + (Y - X) * (P / L)", TurnsTermTest::between);
        DUE.sentence("P is the difference from B to the MOMENT as difference() tells it", TurnsTermTest::asDifferenceTells);
        DUE.sentence("L the whole seconds from B to E", TurnsTermTest::lengths);
        DUE.sentence("rows at the least and the most DAY", TurnsTermTest::farthestRows);
        DUE.sentence("That real is turned into seconds and ATTOS", TurnsTermTest::turnedIntoSecondsAndAttos);
        DUE.sentence("the greatest whole number that is not above it", TurnsTermTest::wholeNumbers);
        DUE.sentence("what is left times 10^18, cut towards 0", TurnsTermTest::whatIsLeft);
        DUE.end();
    }

    private static void offset(Desk desk, long seconds, long attos, double want) {
        int k = desk.make(seconds, attos);
        DUE.same("offset on UT1 at " + seconds + " " + attos, desk.offset(k, 4), want);
    }

    private static void withoutRows() {
        Desk desk = new Desk();
        offset(desk, 0, 0, -32.0);
        desk.leap(10, 33);
        desk.leap(20, 32);
        desk.leap(30, 31);
        offset(desk, Edges.LEAST_SECONDS, 0, -32.0);
        offset(desk, 864032, Edges.LAST_ATTO, -32.0);
        offset(desk, 864033, 0, -33.0);
        offset(desk, 1728031, Edges.LAST_ATTO, -33.0);
        offset(desk, 1728032, 0, -32.0);
        offset(desk, 2592030, Edges.LAST_ATTO, -32.0);
        offset(desk, 2592031, 0, -31.0);
        offset(desk, Edges.MOST_SECONDS, Edges.LAST_ATTO, -31.0);
    }

    private static Desk threeRows() {
        Desk desk = new Desk();
        desk.turn(10, 0.3);
        desk.turn(13, -0.7);
        desk.turn(20, 0.9);
        return desk;
    }

    private static void beforeTheFirst() {
        Desk desk = threeRows();
        offset(desk, Edges.LEAST_SECONDS, 0, 0.3 - 32.0);
        offset(desk, 864031, 0, 0.3 - 32.0);
        offset(desk, 864031, Edges.LAST_ATTO, 0.3 - 32.0);
        offset(desk, 864032, 0, 0.3 - 32.0);
        // A row of LEAPS behind the MOMENT and not above the row's DAY is in its X.
        desk.leap(5, 33);
        DUE.same("offset(0, 4) with a row of LEAPS", desk.offset(0, 4), 0.3 - 33.0);
    }

    private static void atOrBehindTheLast() {
        Desk desk = threeRows();
        offset(desk, 1728032, 0, 0.9 - 32.0);
        offset(desk, 1728032, 1, 0.9 - 32.0);
        offset(desk, 1728033, 0, 0.9 - 32.0);
        offset(desk, Edges.MOST_SECONDS, Edges.LAST_ATTO, 0.9 - 32.0);
        desk.leap(21, 33);
        DUE.same("offset(3, 4) with a row of LEAPS behind it", desk.offset(3, 4), 0.9 - 32.0);
    }

    private static void oneRow() {
        Desk desk = new Desk();
        desk.turn(10, 0.3);
        for (long seconds : new long[] {Edges.LEAST_SECONDS, 864031, 864032, 864033, Edges.MOST_SECONDS}) {
            offset(desk, seconds, 5, 0.3 - 32.0);
        }
        desk.leap(10, 33);
        for (int k = 0; k < 5; k++) {
            DUE.same("offset(" + k + ", 4)", desk.offset(k, 4), 0.3 - 33.0);
        }
    }

    private static void twentyRows() {
        Desk desk = new Desk();
        double[] x = new double[20];
        for (int i = 0; i < 20; i++) {
            double v = (i * 7 % 20 - 10) / 10.0;
            x[i] = v - 32.0;
            desk.turn(3 * i, v);
        }
        for (int i = 0; i < 20; i++) {
            offset(desk, 259200L * i + 32, 0, x[i]);
            offset(desk, 259200L * i + 32 + 12345, 0,
                    i == 19 ? x[i] : x[i] + (x[i + 1] - x[i]) * (12345.0 / 259200.0));
        }
    }

    /** With parts that reals tell exactly, on days that have a second more, one less, and as many as usual. */
    private static void lessUtcAsDaysBegin() {
        Desk desk = new Desk();
        int[] days = {3, 10, 11, 20, 25, 40};
        double[] values = {0.5, -0.25, 1.0, -1.0, 0.0, 0.125};
        int[] offsets = {32, 33, 33, 32, 31, 31};
        desk.leap(10, 33);
        desk.leap(20, 32);
        desk.leap(22, 31);
        for (int i = 0; i < days.length; i++) {
            desk.turn(days[i], values[i]);
            desk.make(86400L * days[i] + offsets[i], 0);
        }
        for (int k = 0; k < days.length; k++) {
            DUE.same("UTC begins a day at " + k, desk.date(k, 1, 9), days[k]);
            DUE.same("UT1 less UTC at " + k, desk.offset(k, 4) - desk.offset(k, 1), values[k]);
        }
    }

    private static void valueLessOffset() {
        Desk desk = new Desk();
        desk.turn(9, 0.4);
        desk.turn(10, -0.5);
        desk.leap(10, 33);
        desk.make(86400 * 9 + 32, 0);
        desk.make(86400 * 10 + 33, 0);
        DUE.same("X of the DAY before a row of LEAPS", desk.offset(0, 4), 0.4 - 32.0);
        DUE.same("X of the DAY of a row of LEAPS", desk.offset(1, 4), -0.5 - 33.0);
        desk.leap(11, 34);
        DUE.same("X with a row of LEAPS behind its DAY", desk.offset(1, 4), -0.5 - 33.0);
    }

    private static void leastAndMostValue() {
        for (double v : new double[] {-1.0, 1.0, 0.0, -0.0, Math.nextDown(1.0), Double.MIN_VALUE}) {
            Desk without = new Desk();
            without.turn(0, v);
            offset(without, 0, 0, v - 32.0);
            Desk up = new Desk();
            Desk down = new Desk();
            for (int i = 0; i < 20; i++) {
                up.leap(i, 33 + i);
                down.leap(i, 31 - i);
            }
            up.turn(19, v);
            down.turn(19, v);
            offset(up, 0, 0, v - 52.0);
            offset(down, 0, 0, v - 12.0);
        }
    }

    /** From 32 to 12, so that X + (Y - X) * 1.0 is not Y: an atto before a row begins it is told so. */
    private static void whereRowsBegin() {
        Desk desk = new Desk();
        for (int i = 0; i < 20; i++) {
            desk.leap(1 + i, 31 - i);
        }
        desk.turn(0, -1.0);
        desk.turn(30, -0.9);
        desk.turn(40, 0.5);
        double x = -1.0 - 32.0;
        double y = -0.9 - 12.0;
        double z = 0.5 - 12.0;
        DUE.isTrue("X + (Y - X) is not Y", x + (y - x) != y);
        offset(desk, 31, Edges.LAST_ATTO, x);
        offset(desk, 32, 0, x);
        offset(desk, 32, 1, x);
        offset(desk, 33, 0, x + (y - x) * (1.0 / 2591980.0));
        offset(desk, 2592011, 0, x + (y - x) * (2591979.0 / 2591980.0));
        offset(desk, 2592011, Edges.LAST_ATTO, x + (y - x));
        offset(desk, 2592012, 0, y);
        offset(desk, 2592012, 1, y);
        offset(desk, 2592013, 0, y + (z - y) * (1.0 / 864000.0));
        offset(desk, 3456011, 0, y + (z - y) * (863999.0 / 864000.0));
        offset(desk, 3456012, 0, z);
    }

    private static void between() {
        for (int i = -10; i <= 10; i++) {
            for (int j = -10; j <= 10; j++) {
                Desk desk = new Desk();
                desk.turn(-1, i / 10.0);
                desk.turn(2, j / 10.0);
                double x = i / 10.0 - 32.0;
                double y = j / 10.0 - 32.0;
                for (int s = 1; s < 259; s += 7) {
                    offset(desk, -86400 + 32 + 1000 * s, 0, x + (y - x) * (1000.0 * s / 259200.0));
                }
            }
        }
    }

    private static void asDifferenceTells() {
        Desk desk = threeRows();
        double x = 0.3 - 32.0;
        double y = -0.7 - 32.0;
        double p = 100.0 + (double) 123456789L * 1.0E-18;
        offset(desk, 864132, 123456789, x + (y - x) * (p / 259200.0));
        p = 5.0 + (double) Edges.LAST_ATTO * 1.0E-18;
        offset(desk, 864037, Edges.LAST_ATTO, x + (y - x) * (p / 259200.0));
        p = 0.0 + 1.0 * 1.0E-18;
        offset(desk, 864032, 1, x + (y - x) * (p / 259200.0));
        p = 12345.0 + (double) 678_901_234_567_890_123L * 1.0E-18;
        offset(desk, 864032 + 12345, 678_901_234_567_890_123L, x + (y - x) * (p / 259200.0));
    }

    /** Rows a day apart, the least there is, and days that have a second more or less. */
    private static void lengths() {
        for (int more = -1; more <= 1; more++) {
            Desk desk = new Desk();
            desk.turn(10, 0.4);
            desk.turn(11, -0.5);
            if (more != 0) {
                desk.leap(11, 32 + more);
            }
            double x = 0.4 - 32.0;
            double y = -0.5 - (32.0 + more);
            double l = 86400.0 + more;
            offset(desk, 864032, 0, x);
            offset(desk, 864033, 0, x + (y - x) * (1.0 / l));
            offset(desk, 864032 + 50000, 0, x + (y - x) * (50000.0 / l));
            offset(desk, 864032 + 86399 + more, 0, x + (y - x) * ((86399.0 + more) / l));
            offset(desk, 864032 + 86400 + more, 0, y);
        }
        Desk over = new Desk();
        over.turn(10, 0.4);
        over.turn(12, -0.5);
        over.turn(14, 0.5);
        over.make(864132, 0);
        over.make(1036832, 0);
        over.make(1036833, 0);
        over.make(1036834, 0);
        over.leap(11, 33);
        over.leap(14, 32);
        double x = 0.4 - 32.0;
        double y = -0.5 - 33.0;
        double z = 0.5 - 32.0;
        DUE.same("offset(0, 4)", over.offset(0, 4), x + (y - x) * (100.0 / 172801.0));
        DUE.same("offset(1, 4)", over.offset(1, 4), x + (y - x) * (172800.0 / 172801.0));
        DUE.same("offset(2, 4)", over.offset(2, 4), y);
        DUE.same("offset(3, 4)", over.offset(3, 4), y + (z - y) * (1.0 / 172799.0));
    }

    private static void farthestRows() {
        Desk desk = new Desk();
        desk.turn(Edges.LEAST_DAY, -1.0);
        desk.turn(Edges.MOST_DAY, 1.0);
        long begin = 86400L * Edges.LEAST_DAY + 32;
        long end = 86400L * Edges.MOST_DAY + 32;
        double l = 311_040_000_000.0;
        offset(desk, Edges.LEAST_SECONDS, 0, -33.0);
        offset(desk, begin - 1, Edges.LAST_ATTO, -33.0);
        offset(desk, begin, 0, -33.0);
        offset(desk, begin + 1_000_000_000, 0, -33.0 + 2.0 * (1.0E9 / l));
        offset(desk, 0, 0, -33.0 + 2.0 * (60_479_999_968.0 / l));
        offset(desk, end - 1, 0, -33.0 + 2.0 * ((l - 1.0) / l));
        offset(desk, end, 0, -31.0);
        offset(desk, Edges.MOST_SECONDS, Edges.LAST_ATTO, -31.0);
    }

    /** The date is that of TAI behind by the real that offset tells, turned as shift turns it. */
    private static void turnedIntoSecondsAndAttos() {
        Desk desk = threeRows();
        desk.leap(12, 33);
        desk.leap(15, 32);
        long[] seconds = {0, 864032, 900000, 1036832, 1123233, 1296032, 1500000, 1728031, 1728032, 99_999_999_999L};
        for (int i = 0; i < seconds.length; i++) {
            int k = desk.make(seconds[i], 123_456_789_012_345_678L * i % Edges.SECOND);
            int turned = desk.shift(k, desk.offset(k, 4));
            for (int what = 0; what <= 9; what++) {
                DUE.same("date(" + k + ", 4, " + what + ")", desk.date(k, 4, what), desk.date(turned, 0, what));
            }
            DUE.same("julian(" + k + ", 4)", desk.julian(k, 4), desk.julian(turned, 0));
            desk.write(k, 4, 18);
            int read = desk.read(0);
            DUE.same("what is written on UT1, read on TAI", desk.compare(read, turned), 0L);
        }
    }

    private static void told(double v, long seconds, long attos, String want) {
        Desk desk = Desks.withOneMoment(seconds, attos);
        desk.turn(0, v);
        DUE.same("UT1 at " + seconds + " " + attos + " with " + v, Texts.written(desk, 0, 4, 18), want);
    }

    private static void wholeNumbers() {
        told(0.0, 32, 0, "2000-01-01T00:00:00.000000000000000000");
        told(1.0, 31, 0, "2000-01-01T00:00:00.000000000000000000");
        told(-1.0, 33, 0, "2000-01-01T00:00:00.000000000000000000");
        told(-1.0, 32, Edges.LAST_ATTO, "1999-12-31T23:59:59.999999999999999999");
        // -31.75 is -32 and 0.25; -32.25 is -33 and 0.75.
        told(0.25, 32, 0, "2000-01-01T00:00:00.250000000000000000");
        told(0.25, 31, 750_000_000_000_000_000L, "2000-01-01T00:00:00.000000000000000000");
        told(0.25, 31, 749_999_999_999_999_999L, "1999-12-31T23:59:59.999999999999999999");
        told(-0.25, 32, 0, "1999-12-31T23:59:59.750000000000000000");
        told(-0.25, 32, 250_000_000_000_000_000L, "2000-01-01T00:00:00.000000000000000000");
        told(-0.25, 32, 249_999_999_999_999_999L, "1999-12-31T23:59:59.999999999999999999");
        // Just beside -32: the nearest reals there are.
        told(0x1p-48, 32, 0, "2000-01-01T00:00:00.000000000000003552");
        told(-0x1p-47, 32, 0, "1999-12-31T23:59:59.999999999999992832");
    }

    /** 32 less a tenth is no tenth in reals, and what is left of it is told to the atto. */
    private static void whatIsLeft() {
        for (double v : new double[] {0.1, 0.2, 0.3, 0.7, 0.9, -0.1, -0.3, -0.6, -0.9}) {
            double real = v - 32.0;
            long floor = v < 0 ? -33 : -32;
            long attos = (long) ((real - (double) floor) * 1.0E18);
            Desk desk = Desks.withOneMoment(100, 0);
            desk.turn(0, v);
            DUE.same("second with " + v, desk.date(0, 4, 5), Math.floorMod(100 + floor, 60L));
            DUE.same("ATTOS with " + v, desk.date(0, 4, 6), attos);
        }
        Desk desk = new Desk();
        desk.turn(0, 0.25);
        desk.turn(2, -0.25);
        desk.make(43200 + 32, Edges.LAST_ATTO);
        long attos = (long) ((-31.75 + -0.5 * (43201.0 / 172800.0) + 32.0) * 1.0E18) - 1;
        DUE.same("ATTOS between rows", desk.date(0, 4, 6), attos);
    }
}
