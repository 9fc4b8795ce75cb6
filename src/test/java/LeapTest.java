/** Promise 2: leap. */
public final class LeapTest {
    private static final Due DUE = new Due("LeapTest");
    private static final Class<IllegalArgumentException> ARGUMENT = IllegalArgumentException.class;
    private static final Class<IndexOutOfBoundsException> FULL = IndexOutOfBoundsException.class;

    public static void main(String[] args) {
        firstRow();
        daysRise();
        daysHaveBounds();
        offsetsGoByOne();
        thereAreTwenty();
        rowsCountFromTheirDay();
        DUE.end();
    }

    private static void refused(EpochDesk desk, int day, int offset, Class<? extends RuntimeException> want) {
        int before = desk.count(1);
        DUE.refused("leap(" + day + ", " + offset + ")", want, () -> desk.leap(day, offset));
        DUE.same("count(1) behind it", desk.count(1), before);
    }

    private static void firstRow() {
        EpochDesk desk = new EpochDesk();
        for (int offset : new int[] {32, 30, 34, 0, 1, -31, -33, Integer.MAX_VALUE, Integer.MIN_VALUE}) {
            refused(desk, 0, offset, ARGUMENT);
        }
        DUE.same("leap(0, 33)", desk.leap(0, 33), 1L);
        DUE.same("leap(0, 31)", new EpochDesk().leap(0, 31), 1L);
    }

    private static void daysRise() {
        EpochDesk desk = new EpochDesk();
        desk.leap(100, 33);
        refused(desk, 100, 34, ARGUMENT);
        refused(desk, 99, 34, ARGUMENT);
        refused(desk, -100, 32, ARGUMENT);
        DUE.same("leap(101, 34)", desk.leap(101, 34), 2L);
        refused(desk, 101, 33, ARGUMENT);
        DUE.same("leap(5000, 33)", desk.leap(5000, 33), 3L);
    }

    private static void daysHaveBounds() {
        EpochDesk desk = new EpochDesk();
        refused(desk, -700001, 33, ARGUMENT);
        refused(desk, Integer.MIN_VALUE, 33, ARGUMENT);
        DUE.same("leap(-700000, 33)", desk.leap(-700000, 33), 1L);
        refused(desk, 2900001, 34, ARGUMENT);
        refused(desk, Integer.MAX_VALUE, 34, ARGUMENT);
        DUE.same("leap(2900000, 34)", desk.leap(2900000, 34), 2L);
        refused(desk, 2900000, 35, ARGUMENT);
    }

    private static void offsetsGoByOne() {
        EpochDesk desk = new EpochDesk();
        desk.leap(1, 33);
        for (int offset : new int[] {33, 35, 31, 0, -34}) {
            refused(desk, 2, offset, ARGUMENT);
        }
        DUE.same("leap(2, 32)", desk.leap(2, 32), 2L);
        refused(desk, 3, 34, ARGUMENT);
        DUE.same("leap(3, 31)", desk.leap(3, 31), 3L);
        DUE.same("leap(4, 32)", desk.leap(4, 32), 4L);
    }

    private static void thereAreTwenty() {
        EpochDesk desk = new EpochDesk();
        for (int i = 0; i < 20; i++) {
            DUE.same("leap(" + i + ", " + (33 + i) + ")", desk.leap(i, 33 + i), i + 1);
        }
        refused(desk, 20, 53, FULL);
        refused(desk, 20, 51, FULL);
        refused(desk, 19, 53, ARGUMENT);
        refused(desk, 20, 52, ARGUMENT);
        refused(desk, 2900001, 53, ARGUMENT);
        DUE.same("count(1)", desk.count(1), 20L);
    }

    /** A refused row leaves no trace, and a row counts for dates of moments that were made before it. */
    private static void rowsCountFromTheirDay() {
        EpochDesk desk = new EpochDesk();
        desk.make(86400L * 10 + 31, 0);
        desk.make(86400L * 10 + 32, 0);
        desk.make(86400L * 10 + 33, 0);
        utcDays(desk, "9 10 10", "without rows");
        desk.leap(10, 33);
        utcDays(desk, "9 9 10", "with a row");
        refused(desk, 10, 32, ARGUMENT);
        utcDays(desk, "9 9 10", "behind a row that was refused");
        desk.leap(11, 32);
        utcDays(desk, "9 9 10", "with a later row");
    }

    private static void utcDays(EpochDesk desk, String want, String when) {
        String got = desk.date(0, 1, 9) + " " + desk.date(1, 1, 9) + " " + desk.date(2, 1, 9);
        DUE.same("UTC days " + when, got, want);
    }
}
