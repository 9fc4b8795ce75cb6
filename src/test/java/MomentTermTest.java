/** Terms: a MOMENT has SECONDS and ATTOS. */
public final class MomentTermTest {
    private static final Due DUE = new Due("MomentTermTest");
    private static final String SOME = "2000-01-01T00:00:05";

    public static void main(String[] args) {
        DUE.sentence("ATTOS (0 to 10^18 - 1, each 10^-18 of one)", MomentTermTest::attos);
        DUE.sentence("counted from 2000-01-01T00:00:00 TAI", MomentTermTest::countedFrom);
        DUE.sentence("MOMENTS are numbered from 0 as they are made", MomentTermTest::numbered);
        DUE.sentence("40 at most: by make", () -> forty(desk -> desk.make(5, 0)));
        DUE.sentence("40 at most: by shift", () -> forty(desk -> desk.shift(0, 5.0)));
        DUE.sentence("40 at most: by read", () -> forty(desk -> Texts.read(desk, 0, SOME)));
        DUE.sentence("40 at most: what is asked of them goes on", MomentTermTest::askedOfForty);
        DUE.end();
    }

    /** One more MOMENT. */
    private interface Maker {
        int makeOn(Desk desk);
    }

    /** Whichever way a MOMENT comes to be, its ATTOS are 0 to 10^18 - 1, and an atto parts it from the next. */
    private static void attos() {
        Desk desk = Desks.withOneMoment(0, 0);
        desk.make(0, Edges.LAST_ATTO);
        DUE.refused("make(0, -1)", Due.ARGUMENT, () -> desk.make(0, -1));
        DUE.refused("make(0, 10^18)", Due.ARGUMENT, () -> desk.make(0, Edges.SECOND));
        desk.shift(1, 1.0E-18);
        desk.shift(0, -0.5);
        Texts.read(desk, 0, "1999-12-31T23:59:59.999999999999999999");
        Texts.read(desk, 2, "2000-01-01T00:00:32.183999999999999999");
        long[][] want = {
            {0, 0}, {0, Edges.LAST_ATTO}, {1, 0}, {-1, Edges.SECOND / 2}, {-1, Edges.LAST_ATTO}, {-1, Edges.LAST_ATTO},
        };
        for (int k = 0; k < want.length; k++) {
            DUE.same("seconds(" + k + ")", desk.seconds(k), want[k][0]);
            DUE.same("attos(" + k + ")", desk.attos(k), want[k][1]);
        }
        DUE.same("compare by an atto", desk.compare(1, 2), -1L);
        DUE.same("compare by an atto", desk.compare(0, 4), 1L);
        DUE.same("the last atto of a second", Texts.written(desk, 1, 0, 18), "2000-01-01T00:00:00.999999999999999999");
        DUE.same("an atto more", Texts.written(desk, 2, 0, 18), "2000-01-01T00:00:01.000000000000000000");
    }

    private static void countedFrom() {
        Desk desk = Desks.withOneMoment(0, 0);
        DUE.same("write(0, 0, 18)", Texts.written(desk, 0, 0, 18), "2000-01-01T00:00:00.000000000000000000");
        DUE.same("read(0)", desk.read(0), 1L);
        DUE.same("seconds(1)", desk.seconds(1), 0L);
        DUE.same("attos(1)", desk.attos(1), 0L);
        desk.make(-1, Edges.LAST_ATTO);
        DUE.same("write(2, 0, 18)", Texts.written(desk, 2, 0, 18), "1999-12-31T23:59:59.999999999999999999");
    }

    private static void numbered() {
        Desk desk = new Desk();
        DUE.same("make", desk.make(1, 0), 0L);
        DUE.same("shift", desk.shift(0, 1.0), 1L);
        DUE.same("read", Texts.read(desk, 0, SOME), 2L);
        DUE.refused("make", Due.ARGUMENT, () -> desk.make(0, -1));
        DUE.refused("shift", Due.ARGUMENT, () -> desk.shift(0, 1.0E12));
        DUE.refused("read", Due.ARGUMENT, () -> desk.read(0));
        DUE.same("read", Texts.read(desk, 3, SOME), 3L);
        DUE.same("shift", desk.shift(3, -1.0), 4L);
        DUE.same("make", desk.make(7, 0), 5L);
        long[] want = {1, 2, 5, 24, 23, 7};
        for (int k = 0; k < want.length; k++) {
            DUE.same("seconds(" + k + ")", desk.seconds(k), want[k]);
        }
    }

    private static void forty(Maker maker) {
        Desk desk = Desks.withMoments(39);
        DUE.same("the 40th", maker.makeOn(desk), 39L);
        DUE.same("seconds(39)", desk.seconds(39), 5L);
        DUE.refused("a 41st", Due.BOUNDS, () -> maker.makeOn(desk));
        DUE.refused("a 41st by make", Due.BOUNDS, () -> desk.make(5, 0));
        DUE.refused("a 41st by shift", Due.BOUNDS, () -> desk.shift(39, 0.0));
        DUE.refused("a 41st by read", Due.BOUNDS, () -> Texts.read(desk, 1, SOME));
        DUE.same("count(0)", desk.count(0), 40L);
        DUE.refused("seconds(40)", Due.NONE, () -> desk.seconds(40));
        for (int k = 0; k < 39; k++) {
            DUE.same("seconds(" + k + ")", desk.seconds(k), k);
        }
        DUE.same("seconds(39)", desk.seconds(39), 5L);
    }

    private static void askedOfForty() {
        Desk desk = Desks.withMoments(40);
        DUE.same("difference(0, 39)", desk.difference(0, 39), 39.0 + 39.0 * 1.0E-18);
        DUE.same("compare(39, 0)", desk.compare(39, 0), 1L);
        DUE.same("date(39, 0, 5)", desk.date(39, 0, 5), 39L);
        DUE.same("write(39, 0, 18)", Texts.written(desk, 39, 0, 18), "2000-01-01T00:00:39.000000000000000039");
        DUE.same("leap(0, 33)", desk.leap(0, 33), 1L);
        DUE.same("turn(0, 1.0)", desk.turn(0, 1.0), 1L);
        DUE.same("offset(39, 1)", desk.offset(39, 1), -33.0);
        DUE.same("offset(39, 4)", desk.offset(39, 4), -32.0);
    }
}
