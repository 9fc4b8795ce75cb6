/** Promise 3: turn. */
public final class TurnTest {
    private static final Due DUE = new Due("TurnTest");
    private static final Class<IllegalArgumentException> ARGUMENT = IllegalArgumentException.class;
    private static final Class<IndexOutOfBoundsException> FULL = IndexOutOfBoundsException.class;

    public static void main(String[] args) {
        values();
        days();
        thereAreTwenty();
        leapsAndTurnsAreApart();
        DUE.end();
    }

    private static void refused(EpochDesk desk, int day, double v, Class<? extends RuntimeException> want) {
        int before = desk.count(2);
        DUE.refused("turn(" + day + ", " + v + ")", want, () -> desk.turn(day, v));
        DUE.same("count(2) behind it", desk.count(2), before);
    }

    private static void values() {
        EpochDesk desk = new EpochDesk();
        double[] wrong = {
            Math.nextUp(1.0), Math.nextDown(-1.0), 2.0, -2.0, Double.NaN,
            Double.POSITIVE_INFINITY, Double.NEGATIVE_INFINITY, Double.MAX_VALUE,
        };
        for (double v : wrong) {
            refused(desk, 0, v, ARGUMENT);
        }
        double[] right = {1.0, -1.0, 0.0, -0.0, Double.MIN_VALUE, 0.25, Math.nextDown(1.0)};
        for (int i = 0; i < right.length; i++) {
            DUE.same("turn(" + i + ", " + right[i] + ")", desk.turn(i, right[i]), i + 1);
        }
    }

    private static void days() {
        EpochDesk desk = new EpochDesk();
        refused(desk, -700001, 0.0, ARGUMENT);
        refused(desk, Integer.MIN_VALUE, 0.0, ARGUMENT);
        DUE.same("turn(-700000, 0.5)", desk.turn(-700000, 0.5), 1L);
        refused(desk, -700000, 0.5, ARGUMENT);
        DUE.same("turn(-699999, 0.5)", desk.turn(-699999, 0.5), 2L);
        refused(desk, -700000, 0.5, ARGUMENT);
        refused(desk, 2900001, 0.0, ARGUMENT);
        refused(desk, Integer.MAX_VALUE, 0.0, ARGUMENT);
        DUE.same("turn(2900000, 0.5)", desk.turn(2900000, 0.5), 3L);
        refused(desk, 2900000, 0.5, ARGUMENT);
    }

    private static void thereAreTwenty() {
        EpochDesk desk = new EpochDesk();
        for (int i = 0; i < 20; i++) {
            DUE.same("turn(" + i + ", 0.5)", desk.turn(i, 0.5), i + 1);
        }
        refused(desk, 20, 0.5, FULL);
        refused(desk, 19, 0.5, ARGUMENT);
        refused(desk, 20, 1.5, ARGUMENT);
        refused(desk, 20, Double.NaN, ARGUMENT);
        DUE.same("count(2)", desk.count(2), 20L);
    }

    private static void leapsAndTurnsAreApart() {
        EpochDesk desk = new EpochDesk();
        desk.leap(100, 33);
        DUE.same("turn(5, 0.5)", desk.turn(5, 0.5), 1L);
        DUE.same("count(1)", desk.count(1), 1L);
        desk.turn(200, 0.5);
        DUE.same("leap(101, 34)", desk.leap(101, 34), 2L);
        DUE.same("count(2)", desk.count(2), 2L);
    }
}
