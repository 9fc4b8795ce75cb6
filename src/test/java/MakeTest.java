/** Promise 4: make. */
public final class MakeTest {
    private static final Due DUE = new Due("MakeTest");

    public static void main(String[] args) {
        DUE.sentence("A MOMENT: its number.", MakeTest::itsNumber);
        DUE.sentence("SECONDS are not -10^11 to 4 * 10^11", MakeTest::secondsHaveBounds);
        DUE.sentence("or ATTOS not as said", MakeTest::attosHaveBounds);
        DUE.sentence("IndexOutOfBoundsException: there are 40.", MakeTest::thereAreForty);
        DUE.sentence("IllegalArgumentException stands before IndexOutOfBoundsException", MakeTest::order);
        DUE.end();
    }

    private static void refused(Desk desk, long seconds, long attos, Class<? extends RuntimeException> want) {
        int before = desk.count(0);
        DUE.refused("make(" + seconds + ", " + attos + ")", want, () -> desk.make(seconds, attos));
        DUE.same("count(0) behind it", desk.count(0), before);
    }

    private static void taken(Desk desk, long seconds, long attos) {
        String call = "make(" + seconds + ", " + attos + ")";
        int before = desk.count(0);
        DUE.same(call, desk.make(seconds, attos), before);
        DUE.same(call + ": count(0)", desk.count(0), before + 1);
        DUE.same(call + ": seconds", desk.seconds(before), seconds);
        DUE.same(call + ": attos", desk.attos(before), attos);
    }

    private static void itsNumber() {
        Desk desk = new Desk();
        DUE.same("the first", desk.make(5, 6), 0L);
        DUE.same("the second", desk.make(-5, 6), 1L);
        DUE.same("the same again", desk.make(5, 6), 2L);
    }

    private static void secondsHaveBounds() {
        Desk desk = new Desk();
        for (long attos : new long[] {0, Edges.LAST_ATTO}) {
            refused(desk, Edges.LEAST_SECONDS - 1, attos, Due.ARGUMENT);
            refused(desk, Edges.MOST_SECONDS + 1, attos, Due.ARGUMENT);
            refused(desk, Long.MIN_VALUE, attos, Due.ARGUMENT);
            refused(desk, Long.MAX_VALUE, attos, Due.ARGUMENT);
            taken(desk, Edges.LEAST_SECONDS, attos);
            taken(desk, Edges.LEAST_SECONDS + 1, attos);
            taken(desk, Edges.MOST_SECONDS - 1, attos);
            taken(desk, Edges.MOST_SECONDS, attos);
        }
        // Their low 32 bits alone would be fine.
        refused(desk, 1L << 40, 0, Due.ARGUMENT);
        refused(desk, -(1L << 40), 0, Due.ARGUMENT);
    }

    private static void attosHaveBounds() {
        Desk desk = new Desk();
        for (long seconds : new long[] {Edges.LEAST_SECONDS, -1, 0, Edges.MOST_SECONDS}) {
            refused(desk, seconds, -1, Due.ARGUMENT);
            refused(desk, seconds, Edges.SECOND, Due.ARGUMENT);
            refused(desk, seconds, Long.MIN_VALUE, Due.ARGUMENT);
            refused(desk, seconds, Long.MAX_VALUE, Due.ARGUMENT);
            taken(desk, seconds, 0);
            taken(desk, seconds, 1);
            taken(desk, seconds, Edges.LAST_ATTO);
        }
    }

    private static void thereAreForty() {
        Desk desk = new Desk();
        for (int k = 0; k < 40; k++) {
            taken(desk, k, 2 * k);
        }
        refused(desk, 0, 0, Due.BOUNDS);
        refused(desk, Edges.LEAST_SECONDS, 0, Due.BOUNDS);
        refused(desk, Edges.MOST_SECONDS, Edges.LAST_ATTO, Due.BOUNDS);
        for (int k = 0; k < 40; k++) {
            DUE.same("seconds(" + k + ")", desk.seconds(k), k);
            DUE.same("attos(" + k + ")", desk.attos(k), 2L * k);
        }
    }

    private static void order() {
        Desk desk = Desks.withMoments(40);
        refused(desk, Edges.LEAST_SECONDS - 1, 0, Due.ARGUMENT);
        refused(desk, Edges.MOST_SECONDS + 1, 0, Due.ARGUMENT);
        refused(desk, 0, -1, Due.ARGUMENT);
        refused(desk, 0, Edges.SECOND, Due.ARGUMENT);
    }
}
