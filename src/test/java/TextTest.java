/** Promise 11: text. */
public final class TextTest {
    private static final Due DUE = new Due("TextTest");

    public static void main(String[] args) {
        DUE.sentence("The letters in the 8 octets of w, the lowest first", TextTest::lettersComeInOrder);
        DUE.sentence("up to the first that is 0", TextTest::upToZero);
        DUE.sentence("come to the text: how many it has", TextTest::howMany);
        DUE.sentence("IllegalArgumentException: the lowest is 0", TextTest::lowestIsZero);
        DUE.sentence("or one is not 32..126: the letters that are", TextTest::everyLetter);
        DUE.sentence("or one is not 32..126: the octets that are none", TextTest::everyOtherOctet);
        DUE.sentence("IndexOutOfBoundsException: there would be more than 48.", TextTest::fortyEight);
        DUE.sentence("IllegalArgumentException stands before IndexOutOfBoundsException", TextTest::order);
        DUE.end();
    }

    private static void refused(Desk desk, long w, Class<? extends RuntimeException> want) {
        int before = desk.count(3);
        DUE.refused("text(0x" + Long.toHexString(w) + ")", want, () -> desk.text(w));
        DUE.same("count(3) behind it", desk.count(3), before);
    }

    private static void lettersComeInOrder() {
        Desk desk = new Desk();
        DUE.same("text of eight", desk.text(0x6867_6665_6463_6261L), 8L);
        DUE.same("the text", Texts.of(desk), "abcdefgh");
        DUE.same("text of one", desk.text('i'), 9L);
        DUE.same("text of three", desk.text(0x7E_206AL), 12L);
        DUE.same("the text", Texts.of(desk), "abcdefghij ~");
    }

    private static void upToZero() {
        for (int many = 1; many <= 8; many++) {
            Desk desk = new Desk();
            DUE.same("text of " + many, desk.text(Texts.word("abcdefgh".substring(0, many))), many);
            DUE.same("the text", Texts.of(desk), "abcdefgh".substring(0, many));
        }
        Desk desk = new Desk();
        DUE.same("letters behind the 0", desk.text(0x4443_4200_0000_0041L), 1L);
        DUE.same("no letters behind the 0", desk.text(0xFFFF_FF01_1F00_4342L), 3L);
        DUE.same("a 0 as the highest", desk.text(0x004A_4948_4746_4544L), 10L);
        DUE.same("the text", Texts.of(desk), "ABCDEFGHIJ");
    }

    private static void howMany() {
        Desk desk = new Desk();
        DUE.same("the first", desk.text('a'), 1L);
        DUE.same("the second", desk.text(Texts.word("bc")), 3L);
        DUE.same("count(3)", desk.count(3), 3L);
        desk.make(0, 0);
        desk.write(0, 0, 0);
        DUE.same("behind a text that was written", desk.text('Z'), 20L);
        DUE.refused("read(0)", Due.ARGUMENT, () -> desk.read(0));
        DUE.same("behind a text that was read", desk.text('Z'), 1L);
    }

    private static void lowestIsZero() {
        Desk empty = new Desk();
        refused(empty, 0, Due.ARGUMENT);
        Desk desk = new Desk();
        desk.text('x');
        refused(desk, 0, Due.ARGUMENT);
        refused(desk, 0x4100, Due.ARGUMENT);
        refused(desk, 0x4142_4344_4546_4700L, Due.ARGUMENT);
        refused(desk, Long.MIN_VALUE, Due.ARGUMENT);
        DUE.same("the text", Texts.of(desk), "x");
    }

    private static void everyLetter() {
        for (int place = 0; place < 8; place++) {
            for (int octet = 32; octet <= 126; octet++) {
                Desk desk = new Desk();
                DUE.same("text with " + octet + " at " + place, desk.text(wordWith(octet, place)), place + 1);
                DUE.same("letter(" + place + ")", desk.letter(place), octet);
            }
        }
    }

    private static void everyOtherOctet() {
        for (int octet = 1; octet <= 255; octet++) {
            if (octet < 32 || octet > 126) {
                Desk desk = new Desk();
                desk.text('x');
                for (int place = 0; place < 8; place++) {
                    refused(desk, wordWith(octet, place), Due.ARGUMENT);
                    refused(desk, (long) octet << (8 * place) | wordWith('a', 7) & ~(255L << (8 * place)), Due.ARGUMENT);
                }
                DUE.same("the text", Texts.of(desk), "x");
            }
        }
        refused(new Desk(), -1, Due.ARGUMENT);
    }

    /** Letters, and behind them this octet as the last one. */
    private static long wordWith(int octet, int place) {
        long before = Texts.word("abcdefgh") & ((1L << (8 * place)) - 1);
        return before | ((long) octet << (8 * place));
    }

    private static Desk withLetters(int many) {
        Desk desk = new Desk();
        Texts.put(desk, "123456789012345678901234567890123456789012345678".substring(0, many));
        return desk;
    }

    private static void fortyEight() {
        for (int many = 1; many <= 8; many++) {
            String letters = "abcdefgh".substring(0, many);
            Desk desk = withLetters(48 - many);
            DUE.same("text of the last " + many, desk.text(Texts.word(letters)), 48L);
            DUE.same("letter(47)", desk.letter(47), letters.charAt(many - 1));
            Desk fuller = withLetters(49 - many);
            refused(fuller, Texts.word(letters), Due.BOUNDS);
            DUE.same("the text", Texts.of(fuller), Texts.of(withLetters(49 - many)));
        }
        Desk full = withLetters(48);
        refused(full, ' ', Due.BOUNDS);
        refused(full, Texts.word("abcdefgh"), Due.BOUNDS);
        DUE.same("the full text", Texts.of(full), Texts.of(withLetters(48)));
        // Only what stands before the 0 would come.
        DUE.same("text", withLetters(47).text(0x4443_4200_0000_0041L), 48L);
    }

    private static void order() {
        Desk desk = withLetters(48);
        refused(desk, 0, Due.ARGUMENT);
        refused(desk, 31, Due.ARGUMENT);
        refused(desk, 127, Due.ARGUMENT);
        Desk fuller = withLetters(41);
        refused(fuller, Texts.word("abcdefg\n"), Due.ARGUMENT);
        refused(fuller, Texts.word("abcdefgh"), Due.BOUNDS);
    }
}
