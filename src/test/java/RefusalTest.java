/**
 * Every call that the document refuses, on an empty desk, on one with some of everything and on a full one: it throws
 * what the document names, all that can be asked stays as it was, and what comes later is answered as if it had not
 * been made.
 */
public final class RefusalTest {
    private static final Due DUE = new Due("RefusalTest");

    /** A call on a desk. */
    private interface Made {
        Object on(Desk desk);
    }

    private static final int EMPTY = 0;
    private static final int SOME = 1;
    private static final int FULL = 2;

    public static void main(String[] args) {
        DUE.sentence("Promise 2: leap", RefusalTest::leaps);
        DUE.sentence("Promise 3: turn", RefusalTest::turns);
        DUE.sentence("Promise 4: make", RefusalTest::makes);
        DUE.sentence("Promise 5: shift", RefusalTest::shifts);
        DUE.sentence("Promise 6: difference", RefusalTest::differences);
        DUE.sentence("Promise 7: compare", RefusalTest::compares);
        DUE.sentence("Promise 8: date", RefusalTest::dates);
        DUE.sentence("Promise 9: offset", RefusalTest::offsets);
        DUE.sentence("Promise 10: julian", RefusalTest::julians);
        DUE.sentence("Promise 11: text", RefusalTest::texts);
        DUE.sentence("Promise 12: read", RefusalTest::reads);
        DUE.sentence("Promise 14: write", RefusalTest::writes);
        DUE.sentence("Promise 15: letter", RefusalTest::letters);
        DUE.sentence("Promise 16: seconds", RefusalTest::seconds);
        DUE.sentence("Promise 17: attos", RefusalTest::attos);
        DUE.sentence("Promise 18: count", RefusalTest::counts);
        DUE.sentence("Questions change nothing either", RefusalTest::questions);
        DUE.end();
    }

    private static Desk desk(int state) {
        return state == EMPTY ? new Desk() : state == SOME ? Desks.some() : Desks.full();
    }

    private static void refused(int state, String call, Class<? extends RuntimeException> want, Made made) {
        Desk seen = desk(state);
        String before = Seen.of(seen);
        DUE.refused(call, want, () -> made.on(seen));
        DUE.same("what is seen behind " + call, Seen.of(seen), before);
        Desk used = desk(state);
        Due.answerOf(() -> made.on(used));
        DUE.same("what comes behind " + call, goOn(used), goOn(desk(state)));
    }

    /** Answers of further calls of every kind: rows, moments and letters until there is no more room for them. */
    private static String goOn(Desk desk) {
        StringBuilder built = new StringBuilder();
        Made[] further = {
            d -> d.leap(31, 34), d -> d.leap(32, 33), d -> d.leap(191, 33), d -> d.turn(26, 0.75), d -> d.turn(196, -0.25),
            d -> d.offset(3, 1), d -> d.offset(3, 4), d -> d.julian(4, 1), d -> d.julian(4, 4), d -> d.text('5'),
            d -> d.letter(22), d -> d.count(3), d -> d.read(1), d -> d.wrong(), d -> d.write(0, 1, 18), d -> d.letter(37),
            d -> d.read(3), d -> d.shift(0, 0.25), d -> d.compare(0, 1), d -> d.difference(0, 1), d -> d.date(0, 4, 6),
        };
        for (Made made : further) {
            built.append(Due.answerOf(() -> made.on(desk))).append('\n');
        }
        for (int i = 0; i < 21; i++) {
            int day = 1000 + i;
            built.append(Due.answerOf(() -> desk.leap(day, day % 2 == 0 ? 34 : 33))).append('\n');
            built.append(Due.answerOf(() -> desk.turn(day, 0.5))).append('\n');
        }
        for (int i = 0; i < 41; i++) {
            built.append(Due.answerOf(() -> desk.make(7, 7))).append('\n');
        }
        for (int i = 0; i < 7; i++) {
            built.append(Due.answerOf(() -> desk.text(Texts.word("abcdefgh")))).append('\n');
        }
        return built.toString();
    }

    private static void leaps() {
        int[][] empty = {{-700001, 33}, {2900001, 33}, {Integer.MIN_VALUE, 33}, {Integer.MAX_VALUE, 33}, {0, 32}, {0, 34}, {0, 30}};
        int[][] some = {{30, 34}, {29, 34}, {-700001, 34}, {2900001, 34}, {31, 33}, {31, 35}, {31, 31}};
        int[][] full = {{190, 33}, {189, 31}, {2900001, 33}, {191, 32}, {191, 34}, {191, 30}};
        for (int[] row : empty) {
            refused(EMPTY, "leap(" + row[0] + ", " + row[1] + ")", Due.ARGUMENT, d -> d.leap(row[0], row[1]));
        }
        for (int[] row : some) {
            refused(SOME, "leap(" + row[0] + ", " + row[1] + ")", Due.ARGUMENT, d -> d.leap(row[0], row[1]));
        }
        for (int[] row : full) {
            refused(FULL, "leap(" + row[0] + ", " + row[1] + ")", Due.ARGUMENT, d -> d.leap(row[0], row[1]));
        }
        refused(FULL, "leap(191, 33)", Due.BOUNDS, d -> d.leap(191, 33));
        refused(FULL, "leap(2900000, 31)", Due.BOUNDS, d -> d.leap(2900000, 31));
    }

    private static void turns() {
        double[] none = {Math.nextUp(1.0), Math.nextDown(-1.0), Double.NaN, Double.POSITIVE_INFINITY, Double.NEGATIVE_INFINITY};
        for (double v : none) {
            refused(EMPTY, "turn(0, " + v + ")", Due.ARGUMENT, d -> d.turn(0, v));
            refused(SOME, "turn(26, " + v + ")", Due.ARGUMENT, d -> d.turn(26, v));
            refused(FULL, "turn(196, " + v + ")", Due.ARGUMENT, d -> d.turn(196, v));
        }
        for (int day : new int[] {-700001, 2900001, Integer.MIN_VALUE, Integer.MAX_VALUE}) {
            for (int state = EMPTY; state <= FULL; state++) {
                refused(state, "turn(" + day + ", 0.5)", Due.ARGUMENT, d -> d.turn(day, 0.5));
            }
        }
        refused(SOME, "turn(25, 0.5)", Due.ARGUMENT, d -> d.turn(25, 0.5));
        refused(SOME, "turn(24, 0.5)", Due.ARGUMENT, d -> d.turn(24, 0.5));
        refused(FULL, "turn(195, 0.5)", Due.ARGUMENT, d -> d.turn(195, 0.5));
        refused(FULL, "turn(196, 0.5)", Due.BOUNDS, d -> d.turn(196, 0.5));
        refused(FULL, "turn(2900000, -1.0)", Due.BOUNDS, d -> d.turn(2900000, -1.0));
    }

    private static void makes() {
        long[][] none = {
            {Edges.LEAST_SECONDS - 1, 0}, {Edges.MOST_SECONDS + 1, 0}, {Long.MIN_VALUE, 0}, {Long.MAX_VALUE, 0}, {0, -1},
            {0, Edges.SECOND}, {0, Long.MIN_VALUE}, {0, Long.MAX_VALUE},
        };
        for (long[] row : none) {
            for (int state = EMPTY; state <= FULL; state++) {
                refused(state, "make(" + row[0] + ", " + row[1] + ")", Due.ARGUMENT, d -> d.make(row[0], row[1]));
            }
        }
        refused(FULL, "make(0, 0)", Due.BOUNDS, d -> d.make(0, 0));
    }

    private static void shifts() {
        int[] count = {0, 14, 40};
        double[] far = {1.0E12, -1.0E12, 1.0E300, Double.POSITIVE_INFINITY, Double.NEGATIVE_INFINITY};
        for (int state = EMPTY; state <= FULL; state++) {
            for (int k : new int[] {count[state], 40, -1, Integer.MAX_VALUE, Integer.MIN_VALUE}) {
                refused(state, "shift(" + k + ", 1.0)", Due.NONE, d -> d.shift(k, 1.0));
                refused(state, "shift(" + k + ", infinite)", Due.NONE, d -> d.shift(k, Double.POSITIVE_INFINITY));
            }
        }
        for (double s : far) {
            refused(SOME, "shift(0, " + s + ")", Due.ARGUMENT, d -> d.shift(0, s));
            refused(FULL, "shift(39, " + s + ")", Due.ARGUMENT, d -> d.shift(39, s));
        }
        refused(SOME, "shift(12, -1.0)", Due.ARGUMENT, d -> d.shift(12, -1.0));
        refused(SOME, "shift(13, 1.0E-18)", Due.ARGUMENT, d -> d.shift(13, 1.0E-18));
        refused(FULL, "shift(0, 1.0)", Due.BOUNDS, d -> d.shift(0, 1.0));
        refused(FULL, "shift(39, no number)", Due.BOUNDS, d -> d.shift(39, Double.NaN));
    }

    private static void differences() {
        int[] count = {0, 14, 40};
        for (int state = EMPTY; state <= FULL; state++) {
            for (int k : new int[] {count[state], 40, -1, Integer.MAX_VALUE, Integer.MIN_VALUE}) {
                refused(state, "difference(" + k + ", 0)", Due.NONE, d -> d.difference(k, 0));
                refused(state, "difference(0, " + k + ")", Due.NONE, d -> d.difference(0, k));
            }
        }
    }

    private static void compares() {
        int[] count = {0, 14, 40};
        for (int state = EMPTY; state <= FULL; state++) {
            for (int k : new int[] {count[state], 40, -1, Integer.MAX_VALUE, Integer.MIN_VALUE}) {
                refused(state, "compare(" + k + ", 0)", Due.NONE, d -> d.compare(k, 0));
                refused(state, "compare(0, " + k + ")", Due.NONE, d -> d.compare(0, k));
            }
        }
    }

    private static void dates() {
        int[] count = {0, 14, 40};
        for (int state = EMPTY; state <= FULL; state++) {
            for (int k : new int[] {count[state], -1}) {
                refused(state, "date(" + k + ", 0, 0)", Due.NONE, d -> d.date(k, 0, 0));
                refused(state, "date(" + k + ", 5, 10)", Due.NONE, d -> d.date(k, 5, 10));
            }
        }
        for (int odd : new int[] {-1, 5, Integer.MAX_VALUE}) {
            refused(SOME, "date(0, " + odd + ", 0)", Due.ARGUMENT, d -> d.date(0, odd, 0));
            refused(SOME, "date(10, " + odd + ", 0)", Due.ARGUMENT, d -> d.date(10, odd, 0));
        }
        for (int odd : new int[] {-1, 10, Integer.MAX_VALUE}) {
            refused(SOME, "date(0, 0, " + odd + ")", Due.ARGUMENT, d -> d.date(0, 0, odd));
            refused(SOME, "date(11, 0, " + odd + ")", Due.ARGUMENT, d -> d.date(11, 0, odd));
        }
        for (int what = 0; what < 10; what++) {
            int asked = what;
            refused(SOME, "date(10, 0, " + what + ")", Due.ARITHMETIC, d -> d.date(10, 0, asked));
            refused(SOME, "date(11, 0, " + what + ")", Due.ARITHMETIC, d -> d.date(11, 0, asked));
        }
    }

    private static void offsets() {
        int[] count = {0, 14, 40};
        for (int state = EMPTY; state <= FULL; state++) {
            for (int k : new int[] {count[state], -1}) {
                refused(state, "offset(" + k + ", 0)", Due.NONE, d -> d.offset(k, 0));
                refused(state, "offset(" + k + ", 5)", Due.NONE, d -> d.offset(k, 5));
            }
        }
        for (int odd : new int[] {-1, 5, Integer.MAX_VALUE}) {
            refused(SOME, "offset(0, " + odd + ")", Due.ARGUMENT, d -> d.offset(0, odd));
        }
    }

    private static void julians() {
        int[] count = {0, 14, 40};
        for (int state = EMPTY; state <= FULL; state++) {
            for (int k : new int[] {count[state], -1}) {
                refused(state, "julian(" + k + ", 0)", Due.NONE, d -> d.julian(k, 0));
                refused(state, "julian(" + k + ", 5)", Due.NONE, d -> d.julian(k, 5));
            }
        }
        for (int odd : new int[] {-1, 5, Integer.MAX_VALUE}) {
            refused(SOME, "julian(0, " + odd + ")", Due.ARGUMENT, d -> d.julian(0, odd));
        }
    }

    private static void texts() {
        long[] none = {0, 0x4100, 31, 127, 128, 255, -1, Long.MIN_VALUE, Texts.word("abcdefg\n"), Texts.word("a\u007f")};
        for (long w : none) {
            for (int state = EMPTY; state <= FULL; state++) {
                refused(state, "text(" + w + ")", Due.ARGUMENT, d -> d.text(w));
            }
        }
        refused(FULL, "text of one", Due.BOUNDS, d -> d.text('a'));
        refused(FULL, "text of eight", Due.BOUNDS, d -> d.text(Texts.word("abcdefgh")));
    }

    /** The text is empty then, and wrong() tells of it; all else stays. */
    private static void refusedRead(
            int state, String letters, int scale, Class<? extends RuntimeException> want, int wrong) {
        String call = "read(" + scale + ") of '" + letters + "'";
        Desk seen = withText(state, letters);
        String due = Seen.of(seen, "", wrong);
        DUE.refused(call, want, () -> seen.read(scale));
        DUE.same("what is seen behind " + call, Seen.of(seen), due);
        Desk used = withText(state, letters);
        Due.answerOf(() -> used.read(scale));
        DUE.same("what comes behind " + call, goOn(used), goOn(withText(state, "")));
    }

    private static Desk withText(int state, String letters) {
        Desk desk = desk(state);
        if (state != EMPTY) {
            Due.answerOf(() -> desk.read(5));
        }
        Texts.put(desk, letters);
        return desk;
    }

    private static void reads() {
        String date = "2000-01-30T23:59:60";
        for (int state = EMPTY; state <= FULL; state++) {
            for (int scale : new int[] {4, 5, -1, Integer.MAX_VALUE, Integer.MIN_VALUE}) {
                refusedRead(state, "2000-01-01T00:00:00", scale, Due.ARGUMENT, -1);
                refusedRead(state, "oops", scale, Due.ARGUMENT, -1);
            }
            refusedRead(state, "", 0, Due.ARGUMENT, 0);
            refusedRead(state, "x", 0, Due.ARGUMENT, 0);
            refusedRead(state, "2000-01-01T00:00:0", 1, Due.ARGUMENT, 18);
            refusedRead(state, "2000-01-01T00:00:00.", 2, Due.ARGUMENT, 20);
            refusedRead(state, Desks.FULL_TEXT, 3, Due.ARGUMENT, 38);
            refusedRead(state, date, 0, Due.STATE, -1);
            refusedRead(state, date, 2, Due.STATE, -1);
            refusedRead(state, date, 3, Due.STATE, -1);
            refusedRead(state, "2000-00-01T00:00:00", 1, Due.STATE, -1);
            refusedRead(state, "2000-02-30T00:00:00", 1, Due.STATE, -1);
        }
        refusedRead(EMPTY, date, 1, Due.STATE, -1);
        refusedRead(SOME, "2000-01-20T23:59:59", 1, Due.STATE, -1);
        refusedRead(FULL, "2000-01-01T00:00:00", 0, Due.BOUNDS, -1);
    }

    private static void writes() {
        int[] count = {0, 14, 40};
        for (int state = EMPTY; state <= FULL; state++) {
            for (int k : new int[] {count[state], -1}) {
                refused(state, "write(" + k + ", 0, 0)", Due.NONE, d -> d.write(k, 0, 0));
                refused(state, "write(" + k + ", 5, 19)", Due.NONE, d -> d.write(k, 5, 19));
            }
        }
        for (int k : new int[] {0, 10, 11}) {
            for (int odd : new int[] {-1, 5, Integer.MAX_VALUE}) {
                refused(SOME, "write(" + k + ", " + odd + ", 0)", Due.ARGUMENT, d -> d.write(k, odd, 0));
            }
            for (int odd : new int[] {-1, 19, Integer.MAX_VALUE}) {
                refused(SOME, "write(" + k + ", 0, " + odd + ")", Due.ARGUMENT, d -> d.write(k, 0, odd));
            }
        }
        for (int digits : new int[] {0, 1, 18}) {
            refused(SOME, "write(10, 0, " + digits + ")", Due.ARITHMETIC, d -> d.write(10, 0, digits));
            refused(SOME, "write(11, 0, " + digits + ")", Due.ARITHMETIC, d -> d.write(11, 0, digits));
        }
    }

    private static void letters() {
        int[] count = {0, 22, 48};
        for (int state = EMPTY; state <= FULL; state++) {
            for (int k : new int[] {count[state], 48, -1, Integer.MAX_VALUE, Integer.MIN_VALUE}) {
                refused(state, "letter(" + k + ")", Due.BOUNDS, d -> d.letter(k));
            }
        }
    }

    private static void seconds() {
        int[] count = {0, 14, 40};
        for (int state = EMPTY; state <= FULL; state++) {
            for (int k : new int[] {count[state], 40, -1, Integer.MAX_VALUE, Integer.MIN_VALUE}) {
                refused(state, "seconds(" + k + ")", Due.NONE, d -> d.seconds(k));
            }
        }
    }

    private static void attos() {
        int[] count = {0, 14, 40};
        for (int state = EMPTY; state <= FULL; state++) {
            for (int k : new int[] {count[state], 40, -1, Integer.MAX_VALUE, Integer.MIN_VALUE}) {
                refused(state, "attos(" + k + ")", Due.NONE, d -> d.attos(k));
            }
        }
    }

    private static void counts() {
        for (int state = EMPTY; state <= FULL; state++) {
            for (int what : new int[] {4, -1, Integer.MAX_VALUE, Integer.MIN_VALUE}) {
                refused(state, "count(" + what + ")", Due.ARGUMENT, d -> d.count(what));
            }
        }
    }

    private static void questions() {
        for (int state = SOME; state <= FULL; state++) {
            Desk desk = desk(state);
            String before = Seen.of(desk);
            for (int scale = 0; scale < 5; scale++) {
                for (int what = 0; what < 10; what++) {
                    desk.date(3, scale, what);
                }
                desk.offset(3, scale);
                desk.julian(3, scale);
            }
            desk.difference(3, 4);
            desk.compare(3, 4);
            DUE.same("what is seen behind questions", Seen.of(desk), before);
        }
    }
}
