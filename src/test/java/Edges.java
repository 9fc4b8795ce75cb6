/** The document's bounds, told a second time. */
final class Edges {
    static final long SECOND = 1_000_000_000_000_000_000L;
    static final long LAST_ATTO = SECOND - 1;

    static final long LEAST_SECONDS = -100_000_000_000L;
    static final long MOST_SECONDS = 400_000_000_000L;

    static final int LEAST_DAY = -700000;
    static final int MOST_DAY = 2900000;

    static final long DAY = 86400L;
    /** TAI as 0000-01-01 begins, and as 10000-01-01 does. */
    static final long YEAR_0 = -730485L * DAY;
    static final long YEAR_10000 = 2921940L * DAY;

    /** Never a SCALE, and never the number of a MOMENT, a row or a letter. */
    static final int[] FAR_OFF = {-1, Integer.MAX_VALUE, Integer.MIN_VALUE};

    private Edges() {
    }
}
