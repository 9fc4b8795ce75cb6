import java.util.NoSuchElementException;

/** Promise 14: write. */
public final class WriteTest {
    private static final Due DUE = new Due("WriteTest");
    private static final long SECOND = 1_000_000_000_000_000_000L;
    private static final Class<IllegalArgumentException> ARGUMENT = IllegalArgumentException.class;

    public static void main(String[] args) {
        scales();
        digitsAreCut();
        leapSeconds();
        theTextIsReplaced();
        refusals();
        DUE.end();
    }

    private static void written(EpochDesk desk, int k, int scale, int digits, String want) {
        String call = "write(" + k + ", " + scale + ", " + digits + ")";
        DUE.same(call, desk.write(k, scale, digits), want.length());
        DUE.same(call + ": the text", Texts.of(desk), want);
    }

    private static void refused(
            EpochDesk desk, int k, int scale, int digits, Class<? extends RuntimeException> want) {
        String before = Texts.of(desk);
        String call = "write(" + k + ", " + scale + ", " + digits + ")";
        DUE.refused(call, want, () -> desk.write(k, scale, digits));
        DUE.same(call + ": the text", Texts.of(desk), before);
    }

    private static void scales() {
        EpochDesk desk = new EpochDesk();
        desk.make(0, 0);
        written(desk, 0, 0, 0, "2000-01-01T00:00:00");
        written(desk, 0, 1, 0, "1999-12-31T23:59:28");
        written(desk, 0, 2, 0, "2000-01-01T00:00:32");
        written(desk, 0, 2, 4, "2000-01-01T00:00:32.1840");
        written(desk, 0, 3, 1, "1999-12-31T23:59:41.0");
        desk.turn(0, -0.5);
        written(desk, 0, 4, 2, "1999-12-31T23:59:27.50");
        desk.make(-730485L * 86400, 1);
        written(desk, 1, 0, 18, "0000-01-01T00:00:00.000000000000000001");
        desk.make(2921940L * 86400 - 1, SECOND - 1);
        written(desk, 2, 0, 18, "9999-12-31T23:59:59.999999999999999999");
        desk.make(-710000L * 86400 + 3600 * 13 + 60 * 14 + 15, 0);
        written(desk, 3, 0, 0, "0056-02-01T13:14:15");
    }

    private static void digitsAreCut() {
        EpochDesk desk = new EpochDesk();
        String parts = "987654321012345678";
        desk.make(61, Long.parseLong(parts));
        desk.make(61, SECOND - 1);
        desk.make(61, 1_000);
        written(desk, 0, 0, 0, "2000-01-01T00:01:01");
        written(desk, 1, 0, 0, "2000-01-01T00:01:01");
        for (int digits = 1; digits <= 18; digits++) {
            written(desk, 0, 0, digits, "2000-01-01T00:01:01." + parts.substring(0, digits));
            written(desk, 1, 0, digits, "2000-01-01T00:01:01." + "9".repeat(digits));
            written(desk, 2, 0, digits, "2000-01-01T00:01:01." + "000000000000001000".substring(0, digits));
        }
    }

    private static void leapSeconds() {
        EpochDesk desk = new EpochDesk();
        desk.leap(366, 33);
        desk.leap(731, 32);
        desk.make(86400L * 366 + 32, SECOND / 2);
        desk.make(86400L * 731 + 31, SECOND / 2);
        written(desk, 0, 1, 1, "2000-12-31T23:59:60.5");
        written(desk, 0, 4, 1, "2001-01-01T00:00:00.5");
        written(desk, 1, 1, 1, "2001-12-31T23:59:58.5");
        for (int k = 0; k < 2; k++) {
            for (int scale = 0; scale < 4; scale++) {
                desk.write(k, scale, 18);
                DUE.same("read of what was written", desk.compare(k, desk.read(scale)), 0L);
            }
        }
    }

    private static void theTextIsReplaced() {
        EpochDesk desk = new EpochDesk();
        desk.make(0, 0);
        Texts.put(desk, "x".repeat(48));
        written(desk, 0, 0, 0, "2000-01-01T00:00:00");
        written(desk, 0, 0, 18, "2000-01-01T00:00:00.000000000000000000");
        written(desk, 0, 0, 1, "2000-01-01T00:00:00.0");
        DUE.same("text", desk.text(Texts.word("7")), 22L);
        DUE.same("the text", Texts.of(desk), "2000-01-01T00:00:00.07");
        DUE.same("read(0)", desk.read(0), 1L);
        DUE.same("attos(1)", desk.attos(1), 70_000_000_000_000_000L);
    }

    private static void refusals() {
        EpochDesk desk = new EpochDesk();
        desk.make(0, 0);
        desk.make(2921940L * 86400, 0);
        desk.make(-730485L * 86400 - 1, SECOND - 1);
        Texts.put(desk, "this stays");
        for (int odd : new int[] {-1, 3, 40, Integer.MAX_VALUE, Integer.MIN_VALUE}) {
            refused(desk, odd, 5, 19, NoSuchElementException.class);
            refused(desk, odd, 0, 0, NoSuchElementException.class);
        }
        for (int odd : new int[] {-1, 5, Integer.MAX_VALUE, Integer.MIN_VALUE}) {
            refused(desk, 0, odd, 0, ARGUMENT);
            refused(desk, 1, odd, 0, ARGUMENT);
        }
        for (int odd : new int[] {-1, 19, Integer.MAX_VALUE, Integer.MIN_VALUE}) {
            refused(desk, 0, 0, odd, ARGUMENT);
            refused(desk, 1, 0, odd, ARGUMENT);
        }
        refused(desk, 1, 0, 0, ArithmeticException.class);
        refused(desk, 2, 0, 18, ArithmeticException.class);
        written(desk, 1, 1, 0, "9999-12-31T23:59:28");
        refused(desk, 2, 4, 3, ArithmeticException.class);
    }
}
