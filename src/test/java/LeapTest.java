/** Promise 2: leap. */
public final class LeapTest {
    private static final Due DUE = new Due("LeapTest");

    public static void main(String[] args) {
        DUE.sentence("A further row of LEAPS: how many.", LeapTest::howMany);
        DUE.sentence("its DAY is not above that of the last row", LeapTest::daysRise);
        DUE.sentence("or not -700000 to 2900000", LeapTest::daysHaveBounds);
        DUE.sentence("or its OFFSET is not one more or one less than the one before", LeapTest::offsetsGoByOne);
        DUE.sentence("(32 for the first row)", LeapTest::firstRow);
        DUE.sentence("IndexOutOfBoundsException: there are 20.", LeapTest::thereAreTwenty);
        DUE.sentence("IllegalArgumentException stands before IndexOutOfBoundsException", LeapTest::order);
        DUE.sentence("A row counts for MOMENTS that were there before it", LeapTest::rowsCountAtOnce);
        DUE.end();
    }

    private static void refused(Desk desk, int day, int offset, Class<? extends RuntimeException> want) {
        int before = desk.count(1);
        DUE.refused("leap(" + day + ", " + offset + ")", want, () -> desk.leap(day, offset));
        DUE.same("count(1) behind it", desk.count(1), before);
    }

    private static void taken(Desk desk, int day, int offset) {
        int before = desk.count(1);
        DUE.same("leap(" + day + ", " + offset + ")", desk.leap(day, offset), before + 1);
        DUE.same("count(1) behind it", desk.count(1), before + 1);
    }

    private static Desk fullOfRows() {
        Desk desk = new Desk();
        for (int i = 0; i < 20; i++) {
            desk.leap(i, 33 + i);
        }
        return desk;
    }

    private static void howMany() {
        Desk desk = new Desk();
        DUE.same("the first", desk.leap(-5, 31), 1L);
        DUE.same("the second", desk.leap(7, 30), 2L);
        DUE.same("the third", desk.leap(8, 31), 3L);
        DUE.same("count(1)", desk.count(1), 3L);
    }

    private static void daysRise() {
        Desk desk = new Desk();
        taken(desk, 100, 33);
        refused(desk, 100, 34, Due.ARGUMENT);
        refused(desk, 99, 34, Due.ARGUMENT);
        refused(desk, 100, 32, Due.ARGUMENT);
        refused(desk, -100, 32, Due.ARGUMENT);
        refused(desk, Edges.LEAST_DAY, 34, Due.ARGUMENT);
        taken(desk, 101, 34);
        refused(desk, 101, 33, Due.ARGUMENT);
        refused(desk, 100, 33, Due.ARGUMENT);
        taken(desk, 5000, 33);
        refused(desk, 4999, 34, Due.ARGUMENT);
        Desk below = new Desk();
        taken(below, -100, 33);
        refused(below, -101, 34, Due.ARGUMENT);
        taken(below, -99, 34);
    }

    private static void daysHaveBounds() {
        Desk low = new Desk();
        refused(low, Edges.LEAST_DAY - 1, 33, Due.ARGUMENT);
        refused(low, Integer.MIN_VALUE, 33, Due.ARGUMENT);
        taken(low, Edges.LEAST_DAY, 33);
        taken(low, Edges.LEAST_DAY + 1, 34);
        Desk high = new Desk();
        refused(high, Edges.MOST_DAY + 1, 33, Due.ARGUMENT);
        refused(high, Integer.MAX_VALUE, 33, Due.ARGUMENT);
        taken(high, Edges.MOST_DAY - 1, 33);
        refused(high, Edges.MOST_DAY + 1, 34, Due.ARGUMENT);
        taken(high, Edges.MOST_DAY, 34);
        refused(high, Edges.MOST_DAY + 1, 35, Due.ARGUMENT);
        refused(high, Edges.MOST_DAY, 35, Due.ARGUMENT);
        taken(new Desk(), Edges.MOST_DAY, 31);
    }

    private static void offsetsGoByOne() {
        Desk desk = new Desk();
        taken(desk, 1, 33);
        for (int offset : new int[] {33, 35, 31, 0, -34, -32, Integer.MAX_VALUE, Integer.MIN_VALUE}) {
            refused(desk, 2, offset, Due.ARGUMENT);
        }
        taken(desk, 2, 32);
        // The one before is 32 now, not the 33 of the row before that.
        refused(desk, 3, 34, Due.ARGUMENT);
        refused(desk, 3, 32, Due.ARGUMENT);
        taken(desk, 3, 31);
        refused(desk, 4, 33, Due.ARGUMENT);
        refused(desk, 4, 29, Due.ARGUMENT);
        taken(desk, 4, 30);
        taken(desk, 5, 31);
    }

    private static void firstRow() {
        Desk desk = new Desk();
        for (int offset : new int[] {32, 30, 34, 0, 1, -1, -31, -33, Integer.MAX_VALUE, Integer.MIN_VALUE}) {
            refused(desk, 0, offset, Due.ARGUMENT);
        }
        taken(desk, 0, 33);
        taken(new Desk(), 0, 31);
    }

    private static void thereAreTwenty() {
        Desk up = new Desk();
        Desk down = new Desk();
        for (int i = 0; i < 20; i++) {
            taken(up, i, 33 + i);
            taken(down, i, 31 - i);
        }
        refused(up, 20, 53, Due.BOUNDS);
        refused(up, 20, 51, Due.BOUNDS);
        refused(up, Edges.MOST_DAY, 53, Due.BOUNDS);
        refused(down, 20, 11, Due.BOUNDS);
        refused(down, 20, 13, Due.BOUNDS);
        DUE.same("count(1)", up.count(1), 20L);
        DUE.same("the last OFFSET", up.offset(up.make(Edges.MOST_SECONDS, 0), 1), -52.0);
        DUE.same("the last OFFSET", down.offset(down.make(Edges.MOST_SECONDS, 0), 1), -12.0);
    }

    private static void order() {
        Desk desk = fullOfRows();
        refused(desk, 19, 53, Due.ARGUMENT);
        refused(desk, 18, 51, Due.ARGUMENT);
        refused(desk, Edges.LEAST_DAY - 1, 53, Due.ARGUMENT);
        refused(desk, Edges.MOST_DAY + 1, 53, Due.ARGUMENT);
        refused(desk, 20, 52, Due.ARGUMENT);
        refused(desk, 20, 54, Due.ARGUMENT);
        refused(desk, 20, 50, Due.ARGUMENT);
    }

    private static void rowsCountAtOnce() {
        Desk desk = new Desk();
        desk.make(86400L * 10 + 31, 0);
        desk.make(86400L * 10 + 32, 0);
        desk.make(86400L * 10 + 33, 0);
        utcDays(desk, "9 10 10", "without rows");
        taken(desk, 10, 33);
        utcDays(desk, "9 9 10", "with a row");
        refused(desk, 10, 32, Due.ARGUMENT);
        utcDays(desk, "9 9 10", "behind a row that was refused");
        taken(desk, 11, 32);
        utcDays(desk, "9 9 10", "with a later row");
    }

    private static void utcDays(Desk desk, String want, String when) {
        String got = desk.date(0, 1, 9) + " " + desk.date(1, 1, 9) + " " + desk.date(2, 1, 9);
        DUE.same("UTC days " + when, got, want);
    }
}
