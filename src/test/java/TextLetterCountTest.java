/** Promises 11, 15 and 18: text, letter and count. */
public final class TextLetterCountTest {
    private static final Due DUE = new Due("TextLetterCountTest");
    private static final Class<IllegalArgumentException> ARGUMENT = IllegalArgumentException.class;
    private static final Class<IndexOutOfBoundsException> BOUNDS = IndexOutOfBoundsException.class;

    public static void main(String[] args) {
        lettersComeInOrder();
        octetsBehindZero();
        whatIsNoLetter();
        fortyEight();
        letters();
        counts();
        DUE.end();
    }

    private static void refused(EpochDesk desk, long w, Class<? extends RuntimeException> want) {
        String before = Texts.of(desk);
        DUE.refused("text(" + w + ")", want, () -> desk.text(w));
        DUE.same("the text behind it", Texts.of(desk), before);
    }

    private static void lettersComeInOrder() {
        EpochDesk desk = new EpochDesk();
        DUE.same("text of one", desk.text('a'), 1L);
        DUE.same("text of eight", desk.text(Texts.word("bcdefghi")), 9L);
        DUE.same("text of three", desk.text(Texts.word("j ~")), 12L);
        DUE.same("the text", Texts.of(desk), "abcdefghij ~");
        for (int octet = 32; octet <= 126; octet++) {
            EpochDesk other = new EpochDesk();
            DUE.same("text(" + octet + ")", other.text(octet), 1L);
            DUE.same("letter(0)", other.letter(0), octet);
        }
    }

    private static void octetsBehindZero() {
        EpochDesk desk = new EpochDesk();
        DUE.same("text", desk.text(0x4443_4200_0000_0041L), 1L);
        DUE.same("text", desk.text(0xFFFF_FF01_1F00_4342L), 3L);
        DUE.same("the text", Texts.of(desk), "ABC");
    }

    private static void whatIsNoLetter() {
        EpochDesk desk = new EpochDesk();
        desk.text('x');
        refused(desk, 0, ARGUMENT);
        refused(desk, 0x4100, ARGUMENT);
        refused(desk, Long.MIN_VALUE, ARGUMENT);
        refused(desk, -1, ARGUMENT);
        for (int octet = 1; octet <= 255; octet++) {
            if (octet < 32 || octet > 126) {
                for (int place = 0; place < 8; place++) {
                    long before = Texts.word("abcdefgh") & ((1L << (8 * place)) - 1);
                    refused(desk, before | ((long) octet << (8 * place)), ARGUMENT);
                }
            }
        }
        DUE.same("the text", Texts.of(desk), "x");
    }

    private static void fortyEight() {
        EpochDesk desk = new EpochDesk();
        for (int i = 1; i <= 5; i++) {
            DUE.same("text", desk.text(Texts.word("12345678")), 8L * i);
        }
        DUE.same("text", desk.text('9'), 41L);
        refused(desk, Texts.word("abcdefgh"), BOUNDS);
        refused(desk, Texts.word("abcdefg\n"), ARGUMENT);
        DUE.same("text", desk.text(Texts.word("abcdefg")), 48L);
        refused(desk, 'h', BOUNDS);
        refused(desk, 0, ARGUMENT);
        refused(desk, 31, ARGUMENT);
        DUE.same("letter(47)", desk.letter(47), 'g');
        DUE.same("count(3)", desk.count(3), 48L);
        DUE.refused("letter(48)", BOUNDS, () -> desk.letter(48));
    }

    private static void letters() {
        EpochDesk desk = new EpochDesk();
        DUE.refused("letter(0)", BOUNDS, () -> desk.letter(0));
        Texts.put(desk, "abc");
        DUE.same("letter(0)", desk.letter(0), 'a');
        DUE.same("letter(2)", desk.letter(2), 'c');
        for (int k : new int[] {3, 47, 48, -1, Integer.MAX_VALUE, Integer.MIN_VALUE}) {
            DUE.refused("letter(" + k + ")", BOUNDS, () -> desk.letter(k));
        }
        DUE.refused("read(0)", ARGUMENT, () -> desk.read(0));
        DUE.refused("letter(0)", BOUNDS, () -> desk.letter(0));
    }

    private static void counts() {
        EpochDesk desk = new EpochDesk();
        desk.make(0, 0);
        desk.shift(0, 1.0);
        desk.make(0, 0);
        desk.leap(0, 33);
        desk.leap(1, 32);
        desk.turn(0, 0.0);
        Texts.put(desk, "abcd");
        DUE.same("count(0)", desk.count(0), 3L);
        DUE.same("count(1)", desk.count(1), 2L);
        DUE.same("count(2)", desk.count(2), 1L);
        DUE.same("count(3)", desk.count(3), 4L);
        desk.write(0, 0, 2);
        DUE.same("count(3)", desk.count(3), 22L);
        desk.read(0);
        DUE.same("count(0)", desk.count(0), 4L);
        DUE.same("count(3)", desk.count(3), 0L);
        for (int what : new int[] {4, -1, Integer.MAX_VALUE, Integer.MIN_VALUE}) {
            DUE.refused("count(" + what + ")", ARGUMENT, () -> desk.count(what));
        }
    }
}
