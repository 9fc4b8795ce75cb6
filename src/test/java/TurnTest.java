/** Promise 3: turn. */
public final class TurnTest {
    private static final Due DUE = new Due("TurnTest");

    public static void main(String[] args) {
        DUE.sentence("A further row of TURNS: how many.", TurnTest::howMany);
        DUE.sentence("its DAY likewise: above that of the last row", TurnTest::daysRise);
        DUE.sentence("its DAY likewise: -700000 to 2900000", TurnTest::daysHaveBounds);
        DUE.sentence("or V is not from -1 to 1", TurnTest::valuesHaveBounds);
        DUE.sentence("(no number, too)", TurnTest::noNumber);
        DUE.sentence("IndexOutOfBoundsException: there are 20.", TurnTest::thereAreTwenty);
        DUE.sentence("IllegalArgumentException stands before IndexOutOfBoundsException", TurnTest::order);
        DUE.sentence("TURNS are not LEAPS", TurnTest::leapsAndTurnsAreApart);
        DUE.end();
    }

    private static void refused(Desk desk, int day, double v, Class<? extends RuntimeException> want) {
        int before = desk.count(2);
        DUE.refused("turn(" + day + ", " + v + ")", want, () -> desk.turn(day, v));
        DUE.same("count(2) behind it", desk.count(2), before);
    }

    private static void taken(Desk desk, int day, double v) {
        int before = desk.count(2);
        DUE.same("turn(" + day + ", " + v + ")", desk.turn(day, v), before + 1);
        DUE.same("count(2) behind it", desk.count(2), before + 1);
    }

    private static void howMany() {
        Desk desk = new Desk();
        DUE.same("the first", desk.turn(-5, 0.5), 1L);
        DUE.same("the second", desk.turn(7, 0.5), 2L);
        DUE.same("the third", desk.turn(8, -0.5), 3L);
        DUE.same("count(2)", desk.count(2), 3L);
    }

    private static void daysRise() {
        Desk desk = new Desk();
        taken(desk, 100, 0.5);
        refused(desk, 100, 0.5, Due.ARGUMENT);
        refused(desk, 99, 0.5, Due.ARGUMENT);
        refused(desk, -100, 0.5, Due.ARGUMENT);
        refused(desk, Edges.LEAST_DAY, 0.5, Due.ARGUMENT);
        taken(desk, 101, 0.5);
        refused(desk, 101, 0.25, Due.ARGUMENT);
        refused(desk, 100, 0.25, Due.ARGUMENT);
        taken(desk, 102, 0.25);
        Desk below = new Desk();
        taken(below, -100, 0.5);
        refused(below, -101, 0.5, Due.ARGUMENT);
        taken(below, -99, 0.5);
    }

    private static void daysHaveBounds() {
        Desk low = new Desk();
        refused(low, Edges.LEAST_DAY - 1, 0.0, Due.ARGUMENT);
        refused(low, Integer.MIN_VALUE, 0.0, Due.ARGUMENT);
        taken(low, Edges.LEAST_DAY, 0.5);
        taken(low, Edges.LEAST_DAY + 1, 0.5);
        Desk high = new Desk();
        refused(high, Edges.MOST_DAY + 1, 0.0, Due.ARGUMENT);
        refused(high, Integer.MAX_VALUE, 0.0, Due.ARGUMENT);
        taken(high, Edges.MOST_DAY - 1, 0.5);
        refused(high, Edges.MOST_DAY + 1, 0.5, Due.ARGUMENT);
        taken(high, Edges.MOST_DAY, 0.5);
        refused(high, Edges.MOST_DAY + 1, 0.5, Due.ARGUMENT);
        refused(high, Edges.MOST_DAY, 0.5, Due.ARGUMENT);
        taken(new Desk(), Edges.MOST_DAY, 0.5);
    }

    private static void valuesHaveBounds() {
        Desk desk = new Desk();
        double[] wrong = {
            Math.nextUp(1.0), Math.nextDown(-1.0), 2.0, -2.0, Double.MAX_VALUE, -Double.MAX_VALUE,
            Double.POSITIVE_INFINITY, Double.NEGATIVE_INFINITY,
        };
        for (double v : wrong) {
            refused(desk, 0, v, Due.ARGUMENT);
        }
        double[] right = {
            1.0, -1.0, Math.nextDown(1.0), Math.nextUp(-1.0), 0.0, -0.0, Double.MIN_VALUE, -Double.MIN_VALUE, 0.25,
        };
        for (int i = 0; i < right.length; i++) {
            taken(desk, i, right[i]);
        }
        DUE.same("the last V less 32", desk.offset(desk.make(Edges.MOST_SECONDS, 0), 4), 0.25 - 32.0);
    }

    private static void noNumber() {
        Desk desk = new Desk();
        refused(desk, 0, Double.NaN, Due.ARGUMENT);
        refused(desk, 0, Double.longBitsToDouble(0xFFF8_0000_0000_0001L), Due.ARGUMENT);
        refused(desk, 0, Double.longBitsToDouble(0x7FF0_0000_0000_0001L), Due.ARGUMENT);
        taken(desk, 0, 0.0);
        refused(desk, 1, Double.NaN, Due.ARGUMENT);
    }

    private static void thereAreTwenty() {
        Desk desk = new Desk();
        for (int i = 0; i < 20; i++) {
            taken(desk, i, 0.5);
        }
        refused(desk, 20, 0.5, Due.BOUNDS);
        refused(desk, 20, 1.0, Due.BOUNDS);
        refused(desk, Edges.MOST_DAY, -1.0, Due.BOUNDS);
        DUE.same("count(2)", desk.count(2), 20L);
        DUE.same("the last X", desk.offset(desk.make(Edges.MOST_SECONDS, 0), 4), 0.5 - 32.0);
    }

    private static void order() {
        Desk desk = new Desk();
        for (int i = 0; i < 20; i++) {
            desk.turn(i, 0.5);
        }
        refused(desk, 19, 0.5, Due.ARGUMENT);
        refused(desk, 18, 0.5, Due.ARGUMENT);
        refused(desk, Edges.LEAST_DAY - 1, 0.5, Due.ARGUMENT);
        refused(desk, Edges.MOST_DAY + 1, 0.5, Due.ARGUMENT);
        refused(desk, 20, Math.nextUp(1.0), Due.ARGUMENT);
        refused(desk, 20, Math.nextDown(-1.0), Due.ARGUMENT);
        refused(desk, 20, Double.NaN, Due.ARGUMENT);
    }

    private static void leapsAndTurnsAreApart() {
        Desk desk = new Desk();
        desk.leap(100, 33);
        taken(desk, 5, 0.5);
        DUE.same("count(1)", desk.count(1), 1L);
        taken(desk, 200, 0.5);
        DUE.same("leap(101, 34)", desk.leap(101, 34), 2L);
        DUE.same("count(2)", desk.count(2), 2L);
        Desk full = new Desk();
        for (int i = 0; i < 20; i++) {
            full.turn(i, 0.5);
        }
        DUE.same("leap while there are 20 TURNS", full.leap(0, 33), 1L);
    }
}
