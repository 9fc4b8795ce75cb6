/** Desks in the states that tests begin with. */
final class Desks {
    static final String SOME_TEXT = "2000-01-30T23:59:60.25";
    static final int SOME_WRONG = 5;
    static final String FULL_TEXT = "2000-01-01T00:00:00.1234567890123456789012345678";

    private Desks() {
    }

    /** A few of everything, with moments where its rows begin, a text, and a wrong place of an earlier one. */
    static Desk some() {
        Desk desk = new Desk();
        desk.leap(10, 33);
        desk.leap(20, 32);
        desk.leap(30, 33);
        desk.turn(5, 0.5);
        desk.turn(15, -0.5);
        desk.turn(25, 0.25);
        desk.make(10 * Edges.DAY + 32, Edges.LAST_ATTO);
        desk.make(10 * Edges.DAY + 33, 0);
        desk.make(20 * Edges.DAY + 31, Edges.LAST_ATTO);
        desk.make(20 * Edges.DAY + 32, 0);
        desk.make(30 * Edges.DAY + 32, 0);
        desk.make(30 * Edges.DAY + 33, 0);
        desk.make(5 * Edges.DAY + 31, Edges.LAST_ATTO);
        desk.make(12 * Edges.DAY, 7);
        desk.make(22 * Edges.DAY, 7);
        desk.make(25 * Edges.DAY + 32, 0);
        desk.make(Edges.YEAR_0 - 1, Edges.LAST_ATTO);
        desk.make(Edges.YEAR_10000, 0);
        desk.make(Edges.LEAST_SECONDS, 0);
        desk.make(Edges.MOST_SECONDS, Edges.LAST_ATTO);
        leaveWrong(desk);
        Texts.put(desk, SOME_TEXT);
        return desk;
    }

    /** 20 rows of each table, 40 moments, 48 letters. */
    static Desk full() {
        Desk desk = new Desk();
        for (int i = 0; i < 20; i++) {
            desk.leap(10 * i, i % 2 == 0 ? 33 : 32);
            desk.turn(10 * i + 5, i % 2 == 0 ? 0.5 : -0.5);
        }
        for (int k = 0; k < 40; k++) {
            desk.make(k * 5 * Edges.DAY + 32, k);
        }
        leaveWrong(desk);
        Texts.put(desk, FULL_TEXT);
        return desk;
    }

    static Desk withMoments(int many) {
        Desk desk = new Desk();
        for (int k = 0; k < many; k++) {
            desk.make(k, k);
        }
        return desk;
    }

    static Desk withOneMoment(long seconds, long attos) {
        Desk desk = new Desk();
        desk.make(seconds, attos);
        return desk;
    }

    private static void leaveWrong(Desk desk) {
        Texts.put(desk, "2000-x");
        try {
            desk.read(0);
        } catch (IllegalArgumentException e) {
            return;
        }
        throw new AssertionError("2000-x was read");
    }
}
