import java.util.NoSuchElementException;

/** Promise 9: offset, with what the terms say of LEAPS and TURNS. */
public final class OffsetTest {
    private static final Due DUE = new Due("OffsetTest");
    private static final long SECOND = 1_000_000_000_000_000_000L;

    public static void main(String[] args) {
        withoutRows();
        coordinated();
        earthWithOneRow();
        earthBetweenRows();
        earthWithLeaps();
        beyondTheYears();
        whatIsWrong();
        DUE.end();
    }

    private static void offset(EpochDesk desk, int k, int scale, double want) {
        DUE.same("offset(" + k + ", " + scale + ")", desk.offset(k, scale), want);
    }

    private static void withoutRows() {
        EpochDesk desk = new EpochDesk();
        desk.make(1000, 1000);
        offset(desk, 0, 0, 0.0);
        offset(desk, 0, 1, -32.0);
        offset(desk, 0, 2, 32.184);
        offset(desk, 0, 3, -19.0);
        offset(desk, 0, 4, -32.0);
    }

    private static void coordinated() {
        EpochDesk desk = new EpochDesk();
        desk.leap(10, 33);
        desk.leap(20, 32);
        desk.leap(21, 31);
        long[][] rows = {
            {864032, 32}, {864033, 33}, {1728031, 33}, {1728032, 32}, {1814430, 32}, {1814431, 31},
            {400_000_000_000L, 31}, {-100_000_000_000L, 32},
        };
        for (int k = 0; k < rows.length; k++) {
            desk.make(rows[k][0], k % 2 == 0 ? SECOND - 1 : 0);
            offset(desk, k, 1, -(double) rows[k][1]);
            offset(desk, k, 4, -(double) rows[k][1]);
        }
    }

    private static void earthWithOneRow() {
        EpochDesk desk = new EpochDesk();
        desk.turn(10, 0.3);
        for (long seconds : new long[] {-100_000_000_000L, 864031, 864032, 864033, 400_000_000_000L}) {
            offset(desk, desk.make(seconds, 5), 4, 0.3 - 32.0);
        }
        desk.leap(10, 33);
        for (int k = 0; k < 5; k++) {
            offset(desk, k, 4, 0.3 - 33.0);
        }
    }

    private static void earthBetweenRows() {
        EpochDesk desk = new EpochDesk();
        desk.turn(10, 0.3);
        desk.turn(13, -0.7);
        desk.turn(20, 0.9);
        double x = 0.3 - 32.0;
        double y = -0.7 - 32.0;
        double z = 0.9 - 32.0;
        offset(desk, desk.make(864031, SECOND - 1), 4, x);
        offset(desk, desk.make(864032, 0), 4, x);
        offset(desk, desk.make(864033, 0), 4, x + (y - x) * (1.0 / 259200.0));
        double p = 100.0 + (double) 123456789L * 1.0E-18;
        offset(desk, desk.make(864132, 123456789), 4, x + (y - x) * (p / 259200.0));
        p = 5.0 + (double) (SECOND - 1) * 1.0E-18;
        offset(desk, desk.make(864037, SECOND - 1), 4, x + (y - x) * (p / 259200.0));
        p = 259199.0 + (double) (SECOND - 1) * 1.0E-18;
        offset(desk, desk.make(1123231, SECOND - 1), 4, x + (y - x) * (p / 259200.0));
        offset(desk, desk.make(1123232, 0), 4, y);
        offset(desk, desk.make(1123232 + 77777, 0), 4, y + (z - y) * (77777.0 / 604800.0));
        offset(desk, desk.make(1728031, 0), 4, y + (z - y) * (604799.0 / 604800.0));
        offset(desk, desk.make(1728032, 0), 4, z);
        offset(desk, desk.make(1728033, 1), 4, z);
    }

    /** A row's X has the OFFSET of its DAY, and its beginning too; L has the leap seconds between. */
    private static void earthWithLeaps() {
        EpochDesk desk = new EpochDesk();
        desk.turn(10, 0.4);
        desk.turn(12, -0.5);
        desk.turn(14, 0.5);
        desk.make(864132, 0);
        desk.make(1036832, 0);
        desk.make(1036833, 0);
        desk.leap(11, 33);
        desk.leap(14, 32);
        double x = 0.4 - 32.0;
        double y = -0.5 - 33.0;
        double z = 0.5 - 32.0;
        offset(desk, 0, 4, x + (y - x) * (100.0 / 172801.0));
        offset(desk, 1, 4, x + (y - x) * (172800.0 / 172801.0));
        offset(desk, 2, 4, y);
        offset(desk, desk.make(1036834, 0), 4, y + (z - y) * (1.0 / 172799.0));
        offset(desk, desk.make(1209631, 0), 4, y + (z - y) * (172798.0 / 172799.0));
        offset(desk, desk.make(1209632, 0), 4, z);
    }

    private static void beyondTheYears() {
        EpochDesk desk = new EpochDesk();
        desk.make(-100_000_000_000L, 0);
        desk.make(400_000_000_000L, 0);
        for (int k = 0; k < 2; k++) {
            offset(desk, k, 0, 0.0);
            offset(desk, k, 1, -32.0);
            offset(desk, k, 2, 32.184);
            offset(desk, k, 3, -19.0);
            offset(desk, k, 4, -32.0);
        }
    }

    private static void whatIsWrong() {
        EpochDesk desk = new EpochDesk();
        DUE.refused("offset(0, 0)", NoSuchElementException.class, () -> desk.offset(0, 0));
        desk.make(0, 0);
        for (int odd : new int[] {-1, 5, Integer.MAX_VALUE, Integer.MIN_VALUE}) {
            DUE.refused("offset(0, " + odd + ")", IllegalArgumentException.class, () -> desk.offset(0, odd));
            DUE.refused("offset(" + odd + ", " + odd + ")", NoSuchElementException.class, () -> desk.offset(odd, odd));
        }
    }
}
