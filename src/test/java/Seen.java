/** All that can be asked of a desk at one time, as one text. */
final class Seen {
    /** So few that a full desk can be looked at twice in its 512 calls. */
    private static final int PROBES = 14;

    private Seen() {
    }

    static String of(Desk desk) {
        return of(desk, Texts.of(desk), desk.wrong());
    }

    /** As the desk would be seen with these letters and this answer of wrong(). */
    static String of(Desk desk, String letters, int wrong) {
        StringBuilder built = new StringBuilder();
        built.append("text '").append(letters).append("' wrong ").append(wrong);
        built.append(" leaps ").append(desk.count(1)).append(" turns ").append(desk.count(2));
        int moments = desk.count(0);
        built.append(" moments ").append(moments);
        for (int k = 0; k < moments; k++) {
            built.append(" | ").append(desk.seconds(k)).append(' ').append(desk.attos(k));
            if (k < PROBES) {
                // Rows can not be asked for, but these two change with any of them.
                built.append(' ').append(desk.offset(k, 1)).append(' ').append(desk.offset(k, 4));
            }
        }
        return built.toString();
    }
}
