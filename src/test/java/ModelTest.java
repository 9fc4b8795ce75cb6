import java.math.BigDecimal;
import java.math.BigInteger;
import java.math.RoundingMode;
import java.time.LocalDate;
import java.time.temporal.ChronoUnit;
import java.util.ArrayList;
import java.util.List;
import java.util.NoSuchElementException;
import java.util.TreeMap;
import java.util.regex.Pattern;

/**
 * Long mixed runs of calls, each compared with a second reckoning of the document that shares no
 * way of reckoning with the program: attoseconds in one whole number, the Java library's calendar,
 * UTC days found by stepping over them.
 */
public final class ModelTest {
    private static final int RUNS = 3000;
    /** As many calls as one step below makes at most. */
    private static final int DEAREST_STEP = 50;
    private static final BigInteger SECOND = BigInteger.TEN.pow(18);

    private static long state = 88172645463325252L;

    /** The same numbers in every run of the test. */
    private static long next() {
        state ^= state << 13;
        state ^= state >>> 7;
        state ^= state << 17;
        return state;
    }

    private static int below(int bound) {
        return (int) Math.floorMod(next(), (long) bound);
    }

    private static int pick(int... choices) {
        return choices[below(choices.length)];
    }

    public static void main(String[] args) {
        Due due = new Due("ModelTest");
        for (int run = 0; run < RUNS; run++) {
            Desk desk = new Desk();
            Model model = new Model();
            int width = pick(3, 30, 3000, 400000);
            while (desk.callsLeft() >= DEAREST_STEP) {
                oneStep(due, desk, model, width);
            }
            while (desk.callsLeft() > 0) {
                oneQuestion(due, desk, model);
            }
        }
        due.end();
    }

    private static void compare(Due due, String call, Due.Call got, Due.Call want) {
        due.same(call, Due.answerOf(got), Due.answerOf(want));
    }

    private static int someDay(int width) {
        return below(50) == 0 ? pick(-700001, -700000, 2900000, 2900001) : below(2 * width) - width;
    }

    private static int someMoment(Model model) {
        return below(40) == 0 ? pick(-1, 40, model.moments.size()) : below(Math.max(1, model.moments.size()));
    }

    private static int someScale() {
        return below(40) == 0 ? pick(-1, 5) : below(5);
    }

    private static long someSeconds(Model model, int width) {
        if (below(30) == 0) {
            long[] edges = {
                -100_000_000_001L, -100_000_000_000L, 400_000_000_000L, 400_000_000_001L, -730485L * 86400,
                2921940L * 86400, -730485L * 86400 + 32, 2921940L * 86400 + 31,
            };
            return edges[below(edges.length)];
        }
        int day = below(2 * width) - width;
        if (below(2) == 0 && !model.leaps.isEmpty()) {
            day = (Integer) model.leaps.keySet().toArray()[below(model.leaps.size())];
        } else if (below(2) == 0 && !model.turns.isEmpty()) {
            day = (Integer) model.turns.keySet().toArray()[below(model.turns.size())];
        }
        return 86400L * day + (below(3) == 0 ? below(86400) : below(60) - 2);
    }

    private static long someAttos() {
        switch (below(6)) {
            case 0: return 0;
            case 1: return 999_999_999_999_999_999L;
            case 2: return below(40) == 0 ? pick(-1, 0) : 1_000_000_000_000_000_000L - below(3);
            case 3: return below(3);
            default: return Math.floorMod(next(), 1_000_000_000_000_000_000L);
        }
    }

    private static double someReal() {
        double part = (double) below(1000000) / 999983.0;
        double[] some = {
            0.0, -0.0, 0.5, -0.5, 1.0, -1.0, part, -part, -1.0E-18, 1.0E-18, -1.0E-17, -1.2E-16, 86400.0, -86400.0,
            part * 1.0E6, -part * 1.0E6, part * 6.0E11, -part * 6.0E11, Double.NaN, Double.POSITIVE_INFINITY,
            Double.NEGATIVE_INFINITY, 1.0E30, -1.0E30, 1.0E12, -1.0E12,
        };
        return some[below(some.length)];
    }

    private static String someText(Desk desk, Model model) {
        String form = "%04d-%02d-%02dT%02d:%02d:%02d";
        int year = pick(0, 1900, 1999, 2000, 2000, 2001, 2004, 9999, below(10000));
        String text = String.format(form, year, below(14), below(33), pick(0, 23, 23, below(26)),
                pick(0, 59, 59, below(62)), pick(0, 58, 59, 60, 60, below(62)));
        if (below(3) != 0 && !model.leaps.isEmpty()) {
            int day = (Integer) model.leaps.keySet().toArray()[below(model.leaps.size())] - below(2);
            text = Model.FIRST.plusDays(day) + "T" + pick(0, 2) + "3:59:" + pick(57, 58, 59, 60, 61);
        }
        if (below(2) == 0) {
            text = text + "." + String.valueOf(1_000_000_000_000_000_000L + someAttos() / 2).substring(0, below(19));
        }
        if (below(10) == 0) {
            int place = below(text.length());
            text = text.substring(0, place) + (char) (32 + below(95)) + text.substring(place + below(2));
        }
        return below(12) == 0 ? text.substring(0, below(text.length())) : text;
    }

    private static void oneStep(Due due, Desk desk, Model model, int width) {
        int k = someMoment(model);
        int j = someMoment(model);
        int scale = someScale();
        switch (below(20)) {
            case 0: {
                int day = below(3) == 0 ? someDay(width) : model.dayBehind(model.leaps, below(width / 2 + 2), width);
                int offset = model.lastOffset() + pick(-1, 1, 1, -1, 1, 0, 2);
                compare(due, "leap(" + day + ", " + offset + ")", () -> desk.leap(day, offset),
                        () -> model.leap(day, offset));
                break;
            }
            case 1: {
                int day = below(3) == 0 ? someDay(width) : model.dayBehind(model.turns, below(width / 2 + 2), width);
                double v = below(8) == 0 ? someReal() : (double) below(2000001) / 1.0E6 - 1.0;
                compare(due, "turn(" + day + ", " + v + ")", () -> desk.turn(day, v), () -> model.turn(day, v));
                break;
            }
            case 2: {
                long seconds = someSeconds(model, width);
                long attos = someAttos();
                compare(due, "make(" + seconds + ", " + attos + ")", () -> desk.make(seconds, attos),
                        () -> model.make(seconds, attos));
                break;
            }
            case 3: {
                double s = someReal();
                compare(due, "shift(" + k + ", " + s + ")", () -> desk.shift(k, s), () -> model.shift(k, s));
                break;
            }
            case 4: {
                String text = someText(desk, model);
                for (int i = 0; i < text.length(); i += 8) {
                    long w = Texts.word(text.substring(i, Math.min(i + 8, text.length())));
                    compare(due, "text(" + w + ")", () -> desk.text(w), () -> model.text(w));
                }
                break;
            }
            case 5: case 6: {
                int asked = scale == 4 && below(4) != 0 ? 1 : scale;
                compare(due, "read(" + asked + ") of " + model.text, () -> desk.read(asked), () -> model.read(asked));
                compare(due, "wrong()", desk::wrong, () -> model.wrong);
                compare(due, "count(3)", () -> desk.count(3), () -> model.text.length());
                break;
            }
            case 7: case 8: {
                int digits = below(20) == 0 ? pick(-1, 19) : below(19);
                compare(due, "write(" + k + ", " + scale + ", " + digits + ")", () -> desk.write(k, scale, digits),
                        () -> model.write(k, scale, digits));
                theText(due, desk, model);
                break;
            }
            case 9:
                compare(due, "difference(" + k + ", " + j + ")", () -> desk.difference(k, j),
                        () -> model.difference(k, j));
                break;
            case 10:
                compare(due, "compare(" + k + ", " + j + ")", () -> desk.compare(k, j),
                        () -> model.at(k).compareTo(model.at(j)));
                break;
            case 11: case 12:
                compare(due, "offset(" + k + ", " + scale + ")", () -> desk.offset(k, scale),
                        () -> model.offset(k, scale));
                break;
            case 13: case 14:
                compare(due, "julian(" + k + ", " + scale + ")", () -> desk.julian(k, scale),
                        () -> model.julian(k, scale));
                break;
            case 15:
                compare(due, "seconds(" + k + ")", () -> desk.seconds(k), () -> Model.seconds(model.at(k)));
                compare(due, "attos(" + k + ")", () -> desk.attos(k), () -> Model.attos(model.at(k)));
                break;
            case 16: {
                int what = pick(-1, 0, 1, 2, 3, 4);
                compare(due, "count(" + what + ")", () -> desk.count(what), () -> model.count(what));
                break;
            }
            default:
                oneQuestion(due, desk, model);
                break;
        }
    }

    private static void oneQuestion(Due due, Desk desk, Model model) {
        int k = someMoment(model);
        int scale = someScale();
        int what = below(30) == 0 ? pick(-1, 10) : below(10);
        compare(due, "date(" + k + ", " + scale + ", " + what + ")", () -> desk.date(k, scale, what),
                () -> model.date(k, scale, what));
    }

    /** All its letters cost many of the calls that there are, so most often one of them is asked for. */
    private static void theText(Due due, Desk desk, Model model) {
        if (below(6) == 0) {
            due.same("the text", Texts.of(desk), model.text);
        } else {
            int k = below(40);
            compare(due, "letter(" + k + ")", () -> desk.letter(k), () -> model.letter(k));
        }
    }

    /** The second reckoning. */
    private static final class Model {
        static final LocalDate FIRST = LocalDate.of(2000, 1, 1);
        static final Pattern DATE = Pattern.compile("\\d{4}-\\d\\d-\\d\\dT\\d\\d:\\d\\d:\\d\\d(\\.\\d{1,18})?");

        final List<BigInteger> moments = new ArrayList<>();
        final TreeMap<Integer, Integer> leaps = new TreeMap<>();
        final TreeMap<Integer, Double> turns = new TreeMap<>();
        String text = "";
        int wrong = -1;

        static BigInteger attosOf(long seconds, long attos) {
            return BigInteger.valueOf(seconds).multiply(SECOND).add(BigInteger.valueOf(attos));
        }

        static long attos(BigInteger moment) {
            return moment.mod(SECOND).longValueExact();
        }

        static long seconds(BigInteger moment) {
            return moment.subtract(moment.mod(SECOND)).divide(SECOND).longValueExact();
        }

        int lastOffset() {
            return leaps.isEmpty() ? 32 : leaps.lastEntry().getValue();
        }

        int dayBehind(TreeMap<Integer, ?> rows, int step, int width) {
            return rows.isEmpty() ? below(width) - width : rows.lastKey() + 1 + step / 8;
        }

        private void requireDay(TreeMap<Integer, ?> rows, int day) {
            if (day < -700000 || day > 2900000 || !rows.isEmpty() && rows.lastKey() >= day) {
                throw new IllegalArgumentException();
            }
        }

        int leap(int day, int offset) {
            requireDay(leaps, day);
            if (Math.abs(offset - lastOffset()) != 1) {
                throw new IllegalArgumentException();
            }
            if (leaps.size() == 20) {
                throw new IndexOutOfBoundsException();
            }
            leaps.put(day, offset);
            return leaps.size();
        }

        int turn(int day, double v) {
            requireDay(turns, day);
            if (Double.isNaN(v) || Math.abs(v) > 1.0) {
                throw new IllegalArgumentException();
            }
            if (turns.size() == 20) {
                throw new IndexOutOfBoundsException();
            }
            turns.put(day, v);
            return turns.size();
        }

        BigInteger at(int k) {
            if (k < 0 || k >= moments.size()) {
                throw new NoSuchElementException();
            }
            return moments.get(k);
        }

        int keep(BigInteger moment) {
            if (moments.size() == 40) {
                throw new IndexOutOfBoundsException();
            }
            moments.add(moment);
            return moments.size() - 1;
        }

        int make(long seconds, long attos) {
            if (seconds < -100_000_000_000L || seconds > 400_000_000_000L || attos < 0 || attos >= 1_000_000_000_000_000_000L) {
                throw new IllegalArgumentException();
            }
            return keep(attosOf(seconds, attos));
        }

        /** Math.floor is the greatest whole number not above; BigDecimal holds every finite real exactly. */
        static BigInteger turned(double real) {
            double floor = Math.floor(real);
            BigInteger rest = new BigDecimal((real - floor) * 1.0E18).setScale(0, RoundingMode.DOWN).toBigInteger();
            return new BigDecimal(floor).toBigIntegerExact().multiply(SECOND).add(rest);
        }

        int shift(int k, double s) {
            BigInteger moment = at(k);
            if (Double.isInfinite(s)) {
                throw new IllegalArgumentException();
            }
            BigInteger shifted = moment.add(Double.isNaN(s) ? BigInteger.ZERO : turned(s));
            if (shifted.compareTo(attosOf(-100_000_000_000L, 0)) < 0
                    || shifted.compareTo(attosOf(400_000_000_001L, 0)) >= 0) {
                throw new IllegalArgumentException();
            }
            return keep(shifted);
        }

        static double real(BigInteger from, BigInteger to) {
            return (double) (seconds(to) - seconds(from)) + (double) (attos(to) - attos(from)) * 1.0E-18;
        }

        double difference(int k, int j) {
            return real(at(k), at(j));
        }

        int offsetOfDay(int day) {
            return leaps.floorEntry(day) == null ? 32 : leaps.floorEntry(day).getValue();
        }

        BigInteger beginning(int day) {
            return attosOf(86400L * day + offsetOfDay(day), 0);
        }

        int utcDay(BigInteger moment) {
            int day = (int) (seconds(moment) / 86400) - 3;
            while (beginning(day + 1).compareTo(moment) <= 0) {
                day++;
            }
            return day;
        }

        double earth(BigInteger moment) {
            if (turns.isEmpty()) {
                return -(double) offsetOfDay(utcDay(moment));
            }
            Integer before = null;
            for (Integer day : turns.keySet()) {
                if (beginning(day).compareTo(moment) <= 0) {
                    before = day;
                }
            }
            if (before == null) {
                return x(turns.firstKey());
            }
            Integer behind = turns.higherKey(before);
            if (behind == null) {
                return x(before);
            }
            double p = real(beginning(before), moment);
            double l = (double) (seconds(beginning(behind)) - seconds(beginning(before)));
            return x(before) + (x(behind) - x(before)) * (p / l);
        }

        private double x(int day) {
            return turns.get(day) - (double) offsetOfDay(day);
        }

        void requireScale(int scale) {
            if (scale < 0 || scale > 4) {
                throw new IllegalArgumentException();
            }
        }

        double offset(int k, int scale) {
            BigInteger moment = at(k);
            requireScale(scale);
            double[] all = {0.0, -(double) offsetOfDay(utcDay(moment)), 32.184, -19.0, earth(moment)};
            return all[scale];
        }

        BigInteger lead(BigInteger moment, int scale) {
            switch (scale) {
                case 2: return attosOf(32, 184_000_000_000_000_000L);
                case 3: return attosOf(-19, 0);
                case 4: return turned(earth(moment));
                default: return BigInteger.ZERO;
            }
        }

        int dayOn(BigInteger moment, int scale) {
            return scale == 1 ? utcDay(moment)
                    : (int) Math.floorDiv(seconds(moment.add(lead(moment, scale))), 86400L);
        }

        BigInteger passedOn(BigInteger moment, int scale) {
            int day = dayOn(moment, scale);
            return scale == 1 ? moment.subtract(beginning(day))
                    : moment.add(lead(moment, scale)).subtract(attosOf(86400L * day, 0));
        }

        double julian(int k, int scale) {
            BigInteger moment = at(k);
            requireScale(scale);
            BigInteger passed = passedOn(moment, scale);
            double ofDay = (double) seconds(passed) + (double) attos(passed) * 1.0E-18;
            return (2451544.5 + (double) dayOn(moment, scale)) + ofDay / 86400.0;
        }

        long[] dateOf(BigInteger moment, int scale) {
            int day = dayOn(moment, scale);
            LocalDate date = FIRST.plusDays(day);
            if (date.getYear() < 0 || date.getYear() > 9999) {
                throw new ArithmeticException();
            }
            BigInteger passed = passedOn(moment, scale);
            long told = Math.min(seconds(passed), 86399);
            return new long[] {
                date.getYear(), date.getMonthValue(), date.getDayOfMonth(), told / 3600, told / 60 % 60,
                told % 60 + seconds(passed) - told, attos(passed), date.getDayOfWeek().getValue() - 1,
                date.getDayOfYear(), day,
            };
        }

        long date(int k, int scale, int what) {
            BigInteger moment = at(k);
            requireScale(scale);
            if (what < 0 || what > 9) {
                throw new IllegalArgumentException();
            }
            return dateOf(moment, scale)[what];
        }

        int write(int k, int scale, int digits) {
            BigInteger moment = at(k);
            requireScale(scale);
            if (digits < 0 || digits > 18) {
                throw new IllegalArgumentException();
            }
            long[] date = dateOf(moment, scale);
            String whole = String.format("%04d-%02d-%02dT%02d:%02d:%02d.%018d",
                    date[0], date[1], date[2], date[3], date[4], date[5], date[6]);
            text = whole.substring(0, digits == 0 ? 19 : 20 + digits);
            return text.length();
        }

        int text(long w) {
            StringBuilder more = new StringBuilder();
            for (long left = w; (left & 255) != 0; left >>>= 8) {
                more.append((char) (left & 255));
            }
            if (!more.toString().matches("[ -~]+")) {
                throw new IllegalArgumentException();
            }
            if (text.length() + more.length() > 48) {
                throw new IndexOutOfBoundsException();
            }
            text = text + more;
            return text.length();
        }

        int letter(int k) {
            if (k >= text.length()) {
                throw new IndexOutOfBoundsException();
            }
            return text.charAt(k);
        }

        /** A start of a text is one that can be filled up to a text with letters of some longest text. */
        static boolean canGoOn(String start) {
            String longest = "2000-01-01T00:00:00.000000000000000000";
            return start.length() <= longest.length()
                    && DATE.matcher(start + longest.substring(start.length())).matches();
        }

        int wrongPlace(String letters) {
            for (int length = 1; length <= letters.length(); length++) {
                if (!canGoOn(letters.substring(0, length))) {
                    return length - 1;
                }
            }
            return DATE.matcher(letters).matches() ? -1 : letters.length();
        }

        int read(int scale) {
            String letters = text;
            text = "";
            wrong = -1;
            if (scale < 0 || scale > 3) {
                throw new IllegalArgumentException();
            }
            wrong = wrongPlace(letters);
            if (wrong != -1) {
                throw new IllegalArgumentException();
            }
            return keep(momentOf(letters, scale));
        }

        private BigInteger momentOf(String letters, int scale) {
            int[] n = new int[6];
            for (int i = 0; i < 6; i++) {
                n[i] = Integer.parseInt(letters.substring(i == 0 ? 0 : 2 + 3 * i, 4 + 3 * i));
            }
            if (n[1] < 1 || n[1] > 12 || n[2] < 1 || n[2] > LocalDate.of(n[0], n[1], 1).lengthOfMonth()
                    || n[3] > 23 || n[4] > 59) {
                throw new IllegalStateException();
            }
            int day = (int) ChronoUnit.DAYS.between(FIRST, LocalDate.of(n[0], n[1], n[2]));
            long passed = n[3] * 3600L + n[4] * 60L + n[5];
            boolean isLastMinute = n[3] == 23 && n[4] == 59;
            if (scale == 1 && isLastMinute) {
                if (passed >= seconds(beginning(day + 1)) - seconds(beginning(day))) {
                    throw new IllegalStateException();
                }
            } else if (n[5] > 59) {
                throw new IllegalStateException();
            }
            String parts = (letters.length() > 19 ? letters.substring(20) : "") + "000000000000000000";
            BigInteger told = attosOf(passed, Long.parseLong(parts.substring(0, 18)));
            return scale == 1 ? beginning(day).add(told)
                    : attosOf(86400L * day, 0).add(told).subtract(lead(null, scale));
        }

        int count(int what) {
            switch (what) {
                case 0: return moments.size();
                case 1: return leaps.size();
                case 2: return turns.size();
                case 3: return text.length();
                default: throw new IllegalArgumentException();
            }
        }
    }
}
