import java.util.NoSuchElementException;

/** Promises 16 and 17: seconds and attos, and how they refuse. */
public final class SecondsAttosTest {
    public static void main(String[] args) {
        Due due = new Due("SecondsAttosTest");
        EpochDesk desk = new EpochDesk();
        desk.make(-7, 5);
        desk.make(12, 999_999_999_999_999_999L);
        due.same("seconds(0)", desk.seconds(0), -7L);
        due.same("attos(0)", desk.attos(0), 5L);
        due.same("seconds(1)", desk.seconds(1), 12L);
        due.same("attos(1)", desk.attos(1), 999_999_999_999_999_999L);
        for (int k : new int[] {2, 39, 40, 41, -1, Integer.MAX_VALUE, Integer.MIN_VALUE}) {
            due.refused("seconds(" + k + ")", NoSuchElementException.class, () -> desk.seconds(k));
            due.refused("attos(" + k + ")", NoSuchElementException.class, () -> desk.attos(k));
        }
        due.end();
    }
}
