import java.math.BigDecimal;
import java.math.RoundingMode;

/** Promise 5: shift, with how the terms turn a real into seconds and ATTOS. */
public final class ShiftTest {
    private static final Due DUE = new Due("ShiftTest");
    private static final long LEAST = Edges.LEAST_SECONDS;
    private static final long MOST = Edges.MOST_SECONDS;
    private static final long SECOND = Edges.SECOND;
    /** 1 less this is as near to 1 as to the real below it, and is told as 1. */
    private static final double TIE = 0x1p-54;
    /** The greatest real below 1, times 10^18. */
    private static final long BELOW_SECOND = 999_999_999_999_999_872L;

    public static void main(String[] args) {
        DUE.sentence("The MOMENT that is s seconds behind MOMENT k", ShiftTest::behind);
        DUE.sentence("(s is turned into seconds and ATTOS as said of UT1", ShiftTest::asSaidOfUt1);
        DUE.sentence("the greatest whole number that is not above it", ShiftTest::wholeNumbers);
        DUE.sentence("and what is left times 10^18, cut towards 0", ShiftTest::whatIsLeft);
        DUE.sentence("should that be 10^18: one second more, and 0", ShiftTest::aSecondMore);
        DUE.sentence("what is no number is 0 seconds", ShiftTest::noNumber);
        DUE.sentence("ATTOS (0 to 10^18 - 1)", ShiftTest::attosAreCarried);
        DUE.sentence("NoSuchElementException: there is no k.", ShiftTest::thereIsNoK);
        DUE.sentence("its SECONDS would not be as make says: the least", ShiftTest::leastSeconds);
        DUE.sentence("its SECONDS would not be as make says: the most", ShiftTest::mostSeconds);
        DUE.sentence("its SECONDS would not be as make says: far beyond them", ShiftTest::farBeyond);
        DUE.sentence("IndexOutOfBoundsException: there are 40.", ShiftTest::thereAreForty);
        DUE.sentence("the exceptions in the order in which they stand", ShiftTest::order);
        DUE.end();
    }

    private static void shifted(long seconds, long attos, double s, long wantSeconds, long wantAttos) {
        Desk desk = Desks.withOneMoment(3, 3);
        desk.make(seconds, attos);
        String call = "shift of " + seconds + " " + attos + " by " + s;
        DUE.same(call, desk.shift(1, s), 2L);
        DUE.same(call + ": count(0)", desk.count(0), 3L);
        DUE.same(call + ": seconds", desk.seconds(2), wantSeconds);
        DUE.same(call + ": attos", desk.attos(2), wantAttos);
        DUE.same(call + ": seconds of the first", desk.seconds(1), seconds);
        DUE.same(call + ": attos of the first", desk.attos(1), attos);
    }

    private static void refused(Desk desk, int k, double s, Class<? extends RuntimeException> want) {
        int before = desk.count(0);
        DUE.refused("shift(" + k + ", " + s + ")", want, () -> desk.shift(k, s));
        DUE.same("count(0) behind it", desk.count(0), before);
    }

    private static void behind() {
        shifted(0, 0, 0.0, 0, 0);
        shifted(0, 0, -0.0, 0, 0);
        shifted(100, 7, 86400.0, 86500, 7);
        shifted(100, 7, -86400.0, -86300, 7);
        shifted(0, 0, 1234567.890625, 1234567, 890_625_000_000_000_000L);
    }

    /** From the real's exact value; what is left is rounded once, as it comes to be told as a real, and then cut. */
    private static void asSaidOfUt1() {
        for (double s : new double[] {0.1, -0.1, 1.0 / 3.0, -1.0 / 3.0, 32.184, -32.184, 1.0E9 + 0.7, -1.0E9 - 0.7, 1.0E-9}) {
            BigDecimal exact = new BigDecimal(s);
            long whole = exact.setScale(0, RoundingMode.FLOOR).longValueExact();
            double left = exact.subtract(new BigDecimal(whole)).doubleValue();
            long attos = (long) new BigDecimal(left).multiply(new BigDecimal("1E18")).doubleValue();
            shifted(0, 0, s, whole, attos);
            shifted(-5, 0, s, whole - 5, attos);
        }
    }

    private static void wholeNumbers() {
        shifted(0, 0, 2.5, 2, SECOND / 2);
        shifted(0, 0, -2.5, -3, SECOND / 2);
        shifted(0, 0, 2.0, 2, 0);
        shifted(0, 0, -2.0, -2, 0);
        shifted(0, 0, Math.nextDown(2.0), 1, 999_999_999_999_999_744L);
        shifted(0, 0, Math.nextUp(2.0), 2, 444L);
        shifted(0, 0, Math.nextUp(-2.0), -2, 222L);
        shifted(0, 0, Math.nextDown(-2.0), -3, 999_999_999_999_999_616L);
        shifted(0, 0, -0.25, -1, 750_000_000_000_000_000L);
    }

    private static void whatIsLeft() {
        shifted(0, 0, 0.1, 0, 100_000_000_000_000_000L);
        shifted(0, 0, 1.0E-18, 0, 1);
        shifted(0, 0, 1.5E-18, 0, 1);
        shifted(0, 0, 1.999E-18, 0, 1);
        shifted(0, 0, 2.0E-18, 0, 2);
        shifted(0, 0, 0.999E-18, 0, 0);
        shifted(0, 0, Double.MIN_VALUE, 0, 0);
        shifted(0, 0, Math.nextDown(1.0), 0, BELOW_SECOND);
        shifted(0, 0, Math.nextUp(-1.0), -1, 111L);
        shifted(0, 0, -1.0E-15, -1, (long) ((-1.0E-15 + 1.0) * 1.0E18));
    }

    private static void aSecondMore() {
        shifted(0, 0, -Double.MIN_VALUE, 0, 0);
        shifted(0, 0, -1.0E-18, 0, 0);
        shifted(0, 0, -1.0E-17, 0, 0);
        shifted(0, 0, -TIE, 0, 0);
        shifted(0, 0, -Math.nextUp(TIE), -1, BELOW_SECOND);
        shifted(7, 9, -TIE, 7, 9);
        shifted(7, 200, -Math.nextUp(TIE), 7, 72);
    }

    private static void noNumber() {
        shifted(7, 9, Double.NaN, 7, 9);
        shifted(7, 9, Double.longBitsToDouble(0xFFF8_0000_0000_0001L), 7, 9);
        shifted(7, 9, Double.longBitsToDouble(0x7FF0_0000_0000_0001L), 7, 9);
        shifted(LEAST, 0, Double.NaN, LEAST, 0);
        shifted(MOST, Edges.LAST_ATTO, Double.NaN, MOST, Edges.LAST_ATTO);
    }

    private static void attosAreCarried() {
        shifted(5, SECOND - 1, 1.0E-18, 6, 0);
        shifted(5, SECOND - 2, 1.0E-18, 5, SECOND - 1);
        shifted(5, SECOND - 1, 2.0E-18, 6, 1);
        shifted(5, SECOND / 2, 0.5, 6, 0);
        shifted(5, SECOND / 2, 0.75, 6, SECOND / 4);
        shifted(5, SECOND / 2 - 1, 0.5, 5, SECOND - 1);
        shifted(5, SECOND / 4, -0.25, 5, 0);
        shifted(5, SECOND / 4 - 1, -0.25, 4, SECOND - 1);
        shifted(5, SECOND / 4, -0.5, 4, 3 * (SECOND / 4));
        shifted(-1, SECOND - 1, 1.0E-18, 0, 0);
        shifted(5, SECOND - 1, Math.nextDown(1.0), 6, BELOW_SECOND - 1);
    }

    private static void thereIsNoK() {
        Desk empty = new Desk();
        refused(empty, 0, 1.0, Due.NONE);
        Desk desk = Desks.withMoments(3);
        refused(desk, 3, 1.0, Due.NONE);
        refused(desk, 39, 1.0, Due.NONE);
        refused(desk, 40, 1.0, Due.NONE);
        for (int k : Edges.FAR_OFF) {
            refused(desk, k, 1.0, Due.NONE);
            refused(desk, k, Double.NaN, Due.NONE);
        }
        DUE.same("shift(2, 1.0)", desk.shift(2, 1.0), 3L);
        DUE.same("shift(3, 1.0)", desk.shift(3, 1.0), 4L);
    }

    private static void leastSeconds() {
        shifted(MOST, SECOND - 1, -5.0E11, LEAST, SECOND - 1);
        shifted(MOST, 0, -5.0E11, LEAST, 0);
        shifted(LEAST + 1, 0, -1.0, LEAST, 0);
        shifted(LEAST, SECOND / 4, -0.25, LEAST, 0);
        shifted(LEAST, 0, -TIE, LEAST, 0);
        Desk desk = Desks.withOneMoment(LEAST, 0);
        desk.make(LEAST, SECOND / 4 - 1);
        desk.make(MOST, 0);
        refused(desk, 0, -1.0, Due.ARGUMENT);
        refused(desk, 0, -Math.nextUp(TIE), Due.ARGUMENT);
        refused(desk, 1, -0.25, Due.ARGUMENT);
        refused(desk, 2, Math.nextDown(-5.0E11), Due.ARGUMENT);
        refused(desk, 2, -5.0E11 - 1.0, Due.ARGUMENT);
    }

    private static void mostSeconds() {
        shifted(LEAST, 0, 5.0E11, MOST, 0);
        shifted(LEAST, 0, Math.nextUp(5.0E11), MOST, 61_035_156_250_000L);
        shifted(MOST, 0, Math.nextDown(1.0), MOST, BELOW_SECOND);
        shifted(MOST, SECOND / 2 - 1, 0.5, MOST, SECOND - 1);
        shifted(MOST, SECOND - 1, 0.999E-18, MOST, SECOND - 1);
        Desk desk = Desks.withOneMoment(MOST, 0);
        desk.make(MOST, SECOND / 2);
        desk.make(MOST, SECOND - 1);
        desk.make(LEAST, 0);
        refused(desk, 0, 1.0, Due.ARGUMENT);
        refused(desk, 1, 0.5, Due.ARGUMENT);
        refused(desk, 2, 1.0E-18, Due.ARGUMENT);
        refused(desk, 3, 5.0E11 + 1.0, Due.ARGUMENT);
    }

    private static void farBeyond() {
        Desk desk = Desks.withOneMoment(LEAST, 0);
        desk.make(0, 0);
        desk.make(MOST, Edges.LAST_ATTO);
        double[] far = {
            6.0E11, 1.0E12, Math.nextUp(1.0E12), 1.0E13, 0x1p63, 0x1p64, 1.0E19, 2.0E19, 1.0E300, Double.MAX_VALUE,
            Double.POSITIVE_INFINITY,
        };
        for (double s : far) {
            for (int k = 0; k < 3; k++) {
                refused(desk, k, s, Due.ARGUMENT);
                refused(desk, k, -s, Due.ARGUMENT);
            }
        }
    }

    private static void thereAreForty() {
        Desk desk = Desks.withOneMoment(0, 0);
        for (int k = 1; k < 40; k++) {
            DUE.same("shift", desk.shift(k - 1, 1.0), k);
        }
        refused(desk, 0, 1.0, Due.BOUNDS);
        refused(desk, 39, 1.0, Due.BOUNDS);
        refused(desk, 0, 0.0, Due.BOUNDS);
        refused(desk, 0, Double.NaN, Due.BOUNDS);
        DUE.same("seconds(39)", desk.seconds(39), 39L);
        DUE.same("count(0)", desk.count(0), 40L);
    }

    private static void order() {
        Desk desk = Desks.withMoments(2);
        refused(desk, 2, 1.0E12, Due.NONE);
        refused(desk, -1, Double.POSITIVE_INFINITY, Due.NONE);
        Desk full = Desks.withMoments(40);
        refused(full, 40, 1.0, Due.NONE);
        refused(full, -1, 1.0E12, Due.NONE);
        refused(full, 39, 1.0E12, Due.ARGUMENT);
        refused(full, 39, Double.NEGATIVE_INFINITY, Due.ARGUMENT);
    }
}
