import java.util.NoSuchElementException;

/** Promise 1: a new object. */
public final class NewObjectTest {
    public static void main(String[] args) {
        Due due = new Due("NewObjectTest");
        EpochDesk desk = new EpochDesk();
        isNew(due, desk);

        EpochDesk used = new EpochDesk();
        used.make(1, 1);
        used.leap(0, 33);
        used.turn(0, 0.5);
        Texts.put(used, "letters");
        due.refused("read(0)", IllegalArgumentException.class, () -> used.read(0));
        Texts.put(used, "letters");
        isNew(due, desk);
        isNew(due, new EpochDesk());
        due.end();
    }

    private static void isNew(Due due, EpochDesk desk) {
        for (int what = 0; what < 4; what++) {
            due.same("count(" + what + ")", desk.count(what), 0L);
        }
        due.same("wrong()", desk.wrong(), -1L);
        due.refused("seconds(0)", NoSuchElementException.class, () -> desk.seconds(0));
        due.refused("letter(0)", IndexOutOfBoundsException.class, () -> desk.letter(0));
    }
}
