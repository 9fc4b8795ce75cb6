import java.util.NoSuchElementException;

/**
 * Moments, exact to the attosecond, and the scales on which they are told.
 *
 * <p>Every moment is kept on TAI alone. What a scale tells of it is reckoned anew in each call,
 * since a later row of leaps or turns changes the dates of moments that stand already.
 */
public final class EpochDesk {
    private static final int TAI = 0;
    private static final int UTC = 1;
    private static final int TT = 2;
    private static final int GPS = 3;
    private static final int UT1 = 4;

    private static final int MOST_MOMENTS = 40;
    private static final int MOST_ROWS = 20;
    private static final int MOST_LETTERS = 48;
    private static final int MOST_DIGITS = 18;

    private static final long LEAST_SECONDS = -100_000_000_000L;
    private static final long MOST_SECONDS = 400_000_000_000L;
    private static final long ATTOS_OF_SECOND = 1_000_000_000_000_000_000L;
    private static final int SECONDS_OF_DAY = 86400;

    private static final int LAST_YEAR = 9999;
    private static final int NOWHERE = -1;

    private final Span[] moments;
    private int momentCount;
    private final Leaps leaps;
    private final Turns turns;
    private final Letters letters;
    private int wrongPlace;

    public EpochDesk() {
        moments = new Span[MOST_MOMENTS];
        momentCount = 0;
        leaps = new Leaps();
        turns = new Turns();
        letters = new Letters();
        wrongPlace = NOWHERE;
    }

    public int leap(int day, int offset) throws IllegalArgumentException, IndexOutOfBoundsException {
        if (!leaps.mayFollow(day, offset)) {
            throw new IllegalArgumentException();
        }
        if (leaps.isFull()) {
            throw new IndexOutOfBoundsException();
        }
        return leaps.append(day, offset);
    }

    public int turn(int day, double v) throws IllegalArgumentException, IndexOutOfBoundsException {
        if (!turns.mayFollow(day, v)) {
            throw new IllegalArgumentException();
        }
        if (turns.isFull()) {
            throw new IndexOutOfBoundsException();
        }
        return turns.append(day, v);
    }

    public int make(long seconds, long attos) throws IllegalArgumentException, IndexOutOfBoundsException {
        if (!areMomentSeconds(seconds) || attos < 0 || attos >= ATTOS_OF_SECOND) {
            throw new IllegalArgumentException();
        }
        return keepMoment(new Span(seconds, attos));
    }

    public int shift(int k, double s)
            throws NoSuchElementException, IllegalArgumentException, IndexOutOfBoundsException {
        Span moment = momentAt(k);
        if (isBeyondAllMoments(s)) {
            throw new IllegalArgumentException();
        }
        Span shifted = moment.plus(Span.ofReal(s != s ? 0.0 : s));
        if (!areMomentSeconds(shifted.whole)) {
            throw new IllegalArgumentException();
        }
        return keepMoment(shifted);
    }

    public double difference(int k, int j) throws NoSuchElementException {
        return momentAt(k).realTo(momentAt(j));
    }

    public int compare(int k, int j) throws NoSuchElementException {
        return momentAt(k).orderTo(momentAt(j));
    }

    public long date(int k, int scale, int what)
            throws NoSuchElementException, IllegalArgumentException, ArithmeticException {
        Span moment = momentAt(k);
        requireScale(scale);
        if (what < 0 || what > 9) {
            throw new IllegalArgumentException();
        }
        Stamp stamp = stampOn(moment, scale);
        CalendarDay on = calendarDayOf(stamp);
        switch (what) {
            case 0: return on.year;
            case 1: return on.month;
            case 2: return on.dayOfMonth;
            case 3: return stamp.hour();
            case 4: return stamp.minute();
            case 5: return stamp.secondOfMinute();
            case 6: return stamp.parts;
            case 7: return stamp.dayOfWeek();
            case 8: return on.dayOfYear;
            default: return stamp.day;
        }
    }

    public double offset(int k, int scale) throws NoSuchElementException, IllegalArgumentException {
        Span moment = momentAt(k);
        requireScale(scale);
        switch (scale) {
            case UTC: return leaps.lessTai(moment);
            case TT: return 32.184;
            case GPS: return -19.0;
            case UT1: return turns.lessTai(moment, leaps);
            default: return 0.0;
        }
    }

    public double julian(int k, int scale) throws NoSuchElementException, IllegalArgumentException {
        Span moment = momentAt(k);
        requireScale(scale);
        Stamp stamp = stampOn(moment, scale);
        double passed = (double) stamp.passed + (double) stamp.parts * 1.0E-18;
        return (2451544.5 + (double) stamp.day) + passed / 86400.0;
    }

    public int text(long w) throws IllegalArgumentException, IndexOutOfBoundsException {
        int many = Octets.beforeZero(w);
        if (many == 0 || !Octets.areLetters(w, many)) {
            throw new IllegalArgumentException();
        }
        if (!letters.hasRoomFor(many)) {
            throw new IndexOutOfBoundsException();
        }
        for (int i = 0; i < many; i++) {
            letters.append((char) Octets.at(w, i));
        }
        return letters.size();
    }

    public int read(int scale)
            throws IllegalArgumentException, IllegalStateException, IndexOutOfBoundsException {
        boolean isRead = isScale(scale) && scale != UT1;
        wrongPlace = isRead ? letters.firstMisfit() : NOWHERE;
        WrittenDate written = isRead && wrongPlace == NOWHERE ? new WrittenDate(letters) : null;
        letters.clear();
        if (written == null) {
            throw new IllegalArgumentException();
        }
        if (!isDateOn(written, scale)) {
            throw new IllegalStateException();
        }
        return keepMoment(momentOf(written.stamp(), scale));
    }

    public int wrong() {
        return wrongPlace;
    }

    public int write(int k, int scale, int digits)
            throws NoSuchElementException, IllegalArgumentException, ArithmeticException {
        Span moment = momentAt(k);
        requireScale(scale);
        if (digits < 0 || digits > MOST_DIGITS) {
            throw new IllegalArgumentException();
        }
        Stamp stamp = stampOn(moment, scale);
        letters.setDate(calendarDayOf(stamp), stamp, digits);
        return letters.size();
    }

    public int letter(int k) throws IndexOutOfBoundsException {
        int found = letters.at(k);
        if (found == NOWHERE) {
            throw new IndexOutOfBoundsException();
        }
        return found;
    }

    public long seconds(int k) throws NoSuchElementException {
        return momentAt(k).whole;
    }

    public long attos(int k) throws NoSuchElementException {
        return momentAt(k).parts;
    }

    public int count(int what) throws IllegalArgumentException {
        switch (what) {
            case 0: return momentCount;
            case 1: return leaps.size();
            case 2: return turns.size();
            case 3: return letters.size();
            default: throw new IllegalArgumentException();
        }
    }

    private Span momentAt(int k) {
        Span moment = k < 0 || k >= momentCount ? null : moments[k];
        if (moment == null) {
            throw new NoSuchElementException();
        }
        return moment;
    }

    private int keepMoment(Span moment) {
        if (momentCount >= MOST_MOMENTS) {
            throw new IndexOutOfBoundsException();
        }
        moments[momentCount] = moment;
        momentCount++;
        return momentCount - 1;
    }

    private static boolean areMomentSeconds(long whole) {
        return whole >= LEAST_SECONDS && whole <= MOST_SECONDS;
    }

    /** Keeps reals that no long can hold, and the infinite ones, away from the casts. */
    private static boolean isBeyondAllMoments(double s) {
        return s > 1.0E12 || s < -1.0E12;
    }

    private static boolean isScale(int scale) {
        return scale >= TAI && scale <= UT1;
    }

    private static void requireScale(int scale) {
        if (!isScale(scale)) {
            throw new IllegalArgumentException();
        }
    }

    private static CalendarDay calendarDayOf(Stamp stamp) {
        CalendarDay on = new CalendarDay(stamp.day);
        if (on.year < 0 || on.year > LAST_YEAR) {
            throw new ArithmeticException();
        }
        return on;
    }

    private Stamp stampOn(Span moment, int scale) {
        if (scale == UTC) {
            return leaps.stampOf(moment);
        }
        Span lead = scale == UT1 ? Span.ofReal(turns.lessTai(moment, leaps)) : fixedLead(scale);
        Span told = moment.plus(lead);
        int day = (int) Math.floorDiv(told.whole, (long) SECONDS_OF_DAY);
        return new Stamp(day, (int) Math.floorMod(told.whole, (long) SECONDS_OF_DAY), told.parts);
    }

    private Span momentOf(Stamp stamp, int scale) {
        if (scale == UTC) {
            return new Span(leaps.beginningOf(stamp.day) + stamp.passed, stamp.parts);
        }
        Span told = new Span((long) SECONDS_OF_DAY * stamp.day + stamp.passed, stamp.parts);
        return told.minus(fixedLead(scale));
    }

    /** What a scale that never wavers is ahead of TAI. */
    private static Span fixedLead(int scale) {
        switch (scale) {
            case TT: return new Span(32, 184_000_000_000_000_000L);
            case GPS: return new Span(-19, 0);
            default: return new Span(0, 0);
        }
    }

    private boolean isDateOn(WrittenDate written, int scale) {
        if (!written.hasDay()) {
            return false;
        }
        int length = scale == UTC ? leaps.lengthOf(written.day()) : SECONDS_OF_DAY;
        return written.hasTimeIn(length);
    }

    /** Whole seconds and, added to them, attoseconds from 0 to 10^18 - 1. */
    private static final class Span {
        final long whole;
        final long parts;

        Span(long whole, long parts) {
            this.whole = whole;
            this.parts = parts;
        }

        static Span ofReal(double real) {
            long cut = (long) real;
            long floor = (double) cut > real ? cut - 1 : cut;
            long rest = (long) ((real - (double) floor) * 1.0E18);
            // A real just below a whole number leaves a rest that rounds up to a whole second.
            return rest >= ATTOS_OF_SECOND ? new Span(floor + 1, 0) : new Span(floor, rest);
        }

        Span plus(Span more) {
            long sum = parts + more.parts;
            return sum >= ATTOS_OF_SECOND
                    ? new Span(whole + more.whole + 1, sum - ATTOS_OF_SECOND)
                    : new Span(whole + more.whole, sum);
        }

        Span minus(Span less) {
            long rest = parts - less.parts;
            return rest < 0
                    ? new Span(whole - less.whole - 1, rest + ATTOS_OF_SECOND)
                    : new Span(whole - less.whole, rest);
        }

        double realTo(Span later) {
            return (double) (later.whole - whole) + (double) (later.parts - parts) * 1.0E-18;
        }

        int orderTo(Span other) {
            return whole == other.whole
                    ? Long.compare(parts, other.parts)
                    : Long.compare(whole, other.whole);
        }
    }

    /** A day, and the seconds and attoseconds that have passed of it, on whatever scale. */
    private static final class Stamp {
        final int day;
        final int passed;
        final long parts;

        Stamp(int day, int passed, long parts) {
            this.day = day;
            this.passed = passed;
            this.parts = parts;
        }

        // The bounds 23 and 59 make 23:59:60 of a leap second, not 24:00:00.

        int hour() {
            return Math.min(passed / 3600, 23);
        }

        int minute() {
            return Math.min((passed - 3600 * hour()) / 60, 59);
        }

        int secondOfMinute() {
            return passed - 3600 * hour() - 60 * minute();
        }

        int dayOfWeek() {
            return Math.floorMod(day + 5, 7);
        }
    }

    /** Year, month and day of the month by the Gregorian rules. */
    private static final class CalendarDay {
        private static final int[] MONTH_LENGTHS = {31, 28, 31, 30, 31, 30, 31, 31, 30, 31, 30, 31};
        private static final long DAYS_OF_400_YEARS = 146097L;

        final int year;
        final int month;
        final int dayOfMonth;
        final int dayOfYear;

        CalendarDay(int day) {
            year = yearOf(day);
            dayOfYear = day - firstDayOf(year) + 1;
            int reached = 1;
            int left = dayOfYear;
            while (reached < 12 && left > monthLength(year, reached)) {
                left -= monthLength(year, reached);
                reached++;
            }
            month = reached;
            dayOfMonth = left;
        }

        static int dayOf(int year, int month, int dayOfMonth) {
            int day = firstDayOf(year) + dayOfMonth - 1;
            for (int m = 1; m < month; m++) {
                day += monthLength(year, m);
            }
            return day;
        }

        static int monthLength(int year, int month) {
            if (month < 1 || month > 12) {
                return 0;
            }
            return month == 2 && isLongYear(year) ? 29 : MONTH_LENGTHS[month - 1];
        }

        private static boolean isLongYear(int year) {
            return year % 4 == 0 && (year % 100 != 0 || year % 400 == 0);
        }

        private static int firstDayOf(int year) {
            int since = year - 2000;
            return 365 * since
                    + Math.floorDiv(since + 3, 4)
                    - Math.floorDiv(since + 99, 100)
                    + Math.floorDiv(since + 399, 400);
        }

        private static int yearOf(int day) {
            // The mean length of a year misses the true year by one at most.
            int near = 2000 + (int) Math.floorDiv(400L * day, DAYS_OF_400_YEARS);
            if (firstDayOf(near) > day) {
                return near - 1;
            }
            return firstDayOf(near + 1) <= day ? near + 1 : near;
        }
    }

    /** The days of a table's rows, each above the one before. */
    private static final class RisingDays {
        private static final int LEAST_DAY = -700000;
        private static final int MOST_DAY = 2900000;

        private final int[] days;
        private int rows;

        RisingDays() {
            days = new int[MOST_ROWS];
            rows = 0;
        }

        boolean mayFollow(int day) {
            return day >= LEAST_DAY && day <= MOST_DAY && (rows == 0 || day > days[rows - 1]);
        }

        boolean isFull() {
            return rows >= MOST_ROWS;
        }

        void append(int day) {
            if (rows < MOST_ROWS) {
                days[rows] = day;
                rows++;
            }
        }

        int size() {
            return rows;
        }

        int at(int row) {
            return days[row];
        }
    }

    /** How many seconds TAI is ahead of UTC, and from which days on. */
    private static final class Leaps {
        private static final int OFFSET_BEFORE_ROWS = 32;

        private final RisingDays days;
        private final int[] offsets;

        Leaps() {
            days = new RisingDays();
            offsets = new int[MOST_ROWS];
        }

        boolean mayFollow(int day, int offset) {
            int last = days.size() == 0 ? OFFSET_BEFORE_ROWS : offsets[days.size() - 1];
            return days.mayFollow(day) && (offset == last + 1 || offset == last - 1);
        }

        boolean isFull() {
            return days.isFull();
        }

        int append(int day, int offset) {
            if (!days.isFull()) {
                offsets[days.size()] = offset;
                days.append(day);
            }
            return days.size();
        }

        int size() {
            return days.size();
        }

        int offsetOf(int day) {
            int found = OFFSET_BEFORE_ROWS;
            for (int i = 0; i < days.size() && days.at(i) <= day; i++) {
                found = offsets[i];
            }
            return found;
        }

        long beginningOf(int day) {
            return (long) SECONDS_OF_DAY * day + offsetOf(day);
        }

        int lengthOf(int day) {
            return SECONDS_OF_DAY + offsetOf(day + 1) - offsetOf(day);
        }

        double lessTai(Span moment) {
            return (double) -offsetOf(dayAt(moment));
        }

        Stamp stampOf(Span moment) {
            int day = dayAt(moment);
            return new Stamp(day, (int) (moment.whole - beginningOf(day)), moment.parts);
        }

        private int dayAt(Span moment) {
            // Twenty rows leave an offset from 12 to 52, so UTC is behind TAI by less than a day.
            int day = (int) Math.floorDiv(moment.whole, (long) SECONDS_OF_DAY);
            return moment.whole < beginningOf(day) ? day - 1 : day;
        }
    }

    /** UT1 less UTC as some days begin. */
    private static final class Turns {
        private final RisingDays days;
        private final double[] values;

        Turns() {
            days = new RisingDays();
            values = new double[MOST_ROWS];
        }

        boolean mayFollow(int day, double v) {
            return days.mayFollow(day) && v >= -1.0 && v <= 1.0;
        }

        boolean isFull() {
            return days.isFull();
        }

        int append(int day, double v) {
            if (!days.isFull()) {
                values[days.size()] = v;
                days.append(day);
            }
            return days.size();
        }

        int size() {
            return days.size();
        }

        double lessTai(Span moment, Leaps leaps) {
            int rows = days.size();
            if (rows == 0) {
                return leaps.lessTai(moment);
            }
            int next = 0;
            while (next < rows && leaps.beginningOf(days.at(next)) <= moment.whole) {
                next++;
            }
            if (next == 0) {
                return rowLessTai(0, leaps);
            }
            return next == rows ? rowLessTai(rows - 1, leaps) : between(next - 1, moment, leaps);
        }

        private double rowLessTai(int row, Leaps leaps) {
            return values[row] - (double) leaps.offsetOf(days.at(row));
        }

        private double between(int row, Span moment, Leaps leaps) {
            Span begin = new Span(leaps.beginningOf(days.at(row)), 0);
            // Never 0: the moment is not before this row's beginning, and before the next one's.
            long length = leaps.beginningOf(days.at(row + 1)) - begin.whole;
            double x = rowLessTai(row, leaps);
            double y = rowLessTai(row + 1, leaps);
            return x + (y - x) * (begin.realTo(moment) / (double) length);
        }
    }

    /** The octets of a long, the lowest first. */
    private static final class Octets {
        static int at(long w, int place) {
            return (int) (w >>> (8 * place)) & 255;
        }

        static int beforeZero(long w) {
            int many = 0;
            while (many < 8 && at(w, many) != 0) {
                many++;
            }
            return many;
        }

        static boolean areLetters(long w, int many) {
            for (int i = 0; i < many; i++) {
                if (at(w, i) < 32 || at(w, i) > 126) {
                    return false;
                }
            }
            return true;
        }
    }

    /** The text, and where the parts of a date stand in it. */
    private static final class Letters {
        // A 0 stands for any digit.
        private static final String FORM = "0000-00-00T00:00:00.000000000000000000";
        private static final int WITHOUT_DOT = 19;
        private static final int WITH_DOT = 20;

        private static final int YEAR_PLACE = 0;
        private static final int MONTH_PLACE = 5;
        private static final int DAY_PLACE = 8;
        private static final int HOUR_PLACE = 11;
        private static final int MINUTE_PLACE = 14;
        private static final int SECOND_PLACE = 17;
        private static final int PARTS_PLACE = 20;

        private final char[] row;
        private int length;

        Letters() {
            row = new char[MOST_LETTERS];
            length = 0;
        }

        int size() {
            return length;
        }

        void clear() {
            length = 0;
        }

        /** NOWHERE if no letter stands there. */
        int at(int place) {
            return place >= 0 && place < length ? row[place] : NOWHERE;
        }

        boolean hasRoomFor(int many) {
            return length + many <= MOST_LETTERS;
        }

        void append(char letter) {
            if (length < MOST_LETTERS) {
                row[length] = letter;
                length++;
            }
        }

        /** The first place where a text of a date can not go on as this one does. */
        int firstMisfit() {
            for (int i = 0; i < length; i++) {
                if (i >= FORM.length() || !fits(row[i], FORM.charAt(i))) {
                    return i;
                }
            }
            return length < WITHOUT_DOT || length == WITH_DOT ? length : NOWHERE;
        }

        private static boolean fits(char letter, char form) {
            return form == '0' ? letter >= '0' && letter <= '9' : letter == form;
        }

        /** Reads places behind the end as 0, so that a short row of parts counts in full. */
        long numberAt(int place, int width) {
            long number = 0;
            for (int i = place; i < place + width; i++) {
                number = 10 * number + (i < length ? row[i] - '0' : 0);
            }
            return number;
        }

        void setDate(CalendarDay on, Stamp stamp, int digits) {
            clear();
            for (int i = 0; i < FORM.length(); i++) {
                append(FORM.charAt(i));
            }
            putNumber(YEAR_PLACE, 4, on.year);
            putNumber(MONTH_PLACE, 2, on.month);
            putNumber(DAY_PLACE, 2, on.dayOfMonth);
            putNumber(HOUR_PLACE, 2, stamp.hour());
            putNumber(MINUTE_PLACE, 2, stamp.minute());
            putNumber(SECOND_PLACE, 2, stamp.secondOfMinute());
            putNumber(PARTS_PLACE, MOST_DIGITS, stamp.parts);
            length = digits == 0 ? WITHOUT_DOT : WITH_DOT + digits;
        }

        private void putNumber(int place, int width, long number) {
            long left = number;
            for (int i = place + width - 1; i >= place; i--) {
                row[i] = (char) ('0' + left % 10);
                left /= 10;
            }
        }
    }

    /** The numbers that a text of a date has, whether there is such a date or not. */
    private static final class WrittenDate {
        private final int year;
        private final int month;
        private final int dayOfMonth;
        private final int hour;
        private final int minute;
        private final int secondOfMinute;
        private final long parts;

        WrittenDate(Letters letters) {
            year = (int) letters.numberAt(Letters.YEAR_PLACE, 4);
            month = (int) letters.numberAt(Letters.MONTH_PLACE, 2);
            dayOfMonth = (int) letters.numberAt(Letters.DAY_PLACE, 2);
            hour = (int) letters.numberAt(Letters.HOUR_PLACE, 2);
            minute = (int) letters.numberAt(Letters.MINUTE_PLACE, 2);
            secondOfMinute = (int) letters.numberAt(Letters.SECOND_PLACE, 2);
            parts = letters.numberAt(Letters.PARTS_PLACE, MOST_DIGITS);
        }

        boolean hasDay() {
            return dayOfMonth >= 1 && dayOfMonth <= CalendarDay.monthLength(year, month);
        }

        int day() {
            return CalendarDay.dayOf(year, month, dayOfMonth);
        }

        /** A day's leap second, come or gone, is the last one of its last minute. */
        boolean hasTimeIn(int dayLength) {
            boolean isLastMinute = hour == 23 && minute == 59;
            int lastSecond = isLastMinute ? 59 + dayLength - SECONDS_OF_DAY : 59;
            return hour <= 23 && minute <= 59 && secondOfMinute <= lastSecond;
        }

        Stamp stamp() {
            return new Stamp(day(), 3600 * hour + 60 * minute + secondOfMinute, parts);
        }
    }
}
