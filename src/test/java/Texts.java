/** Texts into a desk and out of it. */
final class Texts {
    private Texts() {
    }

    /** Up to 8 letters as the octets of a long, the lowest first. */
    static long word(String letters) {
        long w = 0;
        for (int i = letters.length() - 1; i >= 0; i--) {
            w = (w << 8) | letters.charAt(i);
        }
        return w;
    }

    static void put(Desk desk, String letters) {
        for (int i = 0; i < letters.length(); i += 8) {
            desk.text(word(letters.substring(i, Math.min(i + 8, letters.length()))));
        }
    }

    static int read(Desk desk, int scale, String letters) {
        put(desk, letters);
        return desk.read(scale);
    }

    static String of(Desk desk) {
        StringBuilder built = new StringBuilder();
        int length = desk.count(3);
        for (int i = 0; i < length; i++) {
            built.append((char) desk.letter(i));
        }
        return built.toString();
    }

    static String written(Desk desk, int k, int scale, int digits) {
        desk.write(k, scale, digits);
        return of(desk);
    }
}
