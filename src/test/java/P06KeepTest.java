/** Promise 6: keep puts bytes of OUT behind the tape. */
public final class P06KeepTest {
    public static void main(String[] args) {
        Due due = new Due();
        edges(due);
        full(due);
        chain(due);
        due.end();
    }

    private static void edges(Due due) {
        Desk desk = new Desk();
        due.is("keep(0, 0) of no bytes", desk.fob.keep(0, 0), 0);
        due.is("keep(1, 0) of no bytes", desk.fob.keep(1, 0), KeyFob.OUTSIDE);
        due.is("keep(0, 1) of no bytes", desk.fob.keep(0, 1), KeyFob.OUTSIDE);
        desk.send(Desk.PIN, new MapOf().number(1, 1));
        int[][] outside = {{-1, 1}, {0, -1}, {0, 4}, {3, 1}, {4, 0}, {2, 2}, {-1, 0}, {1, Integer.MAX_VALUE},
            {Integer.MAX_VALUE, Integer.MAX_VALUE}, {Integer.MAX_VALUE, 1}, {Integer.MIN_VALUE, 2}, {2, Integer.MIN_VALUE}};
        for (int[] pair : outside) {
            due.is("keep(" + pair[0] + ", " + pair[1] + ")", desk.fob.keep(pair[0], pair[1]), KeyFob.OUTSIDE);
        }
        due.is("the tape stays", desk.fob.count(7), 0);
        due.is("keep(3, 0)", desk.fob.keep(3, 0), 0);
        due.is("keep(2, 1)", desk.fob.keep(2, 1), 1);
        due.is("keep(0, 3)", desk.fob.keep(0, 3), 4);
        due.is("OUT stays", desk.fob.count(6), 3);
    }

    private static void full(Due due) {
        Desk desk = new Desk();
        desk.make("h", "u");
        due.is("keep 188", desk.fob.keep(0, 188), 188);
        due.is("keep 188", desk.fob.keep(0, 188), 376);
        due.is("keep 188", desk.fob.keep(0, 188), KeyFob.FULL);
        due.is("keep 25", desk.fob.keep(0, 25), KeyFob.FULL);
        due.is("OUTSIDE before FULL", desk.fob.keep(0, 189), KeyFob.OUTSIDE);
        due.is("the tape stays", desk.fob.count(7), 376);
        due.is("keep 24", desk.fob.keep(164, 24), 400);
        due.is("keep 1", desk.fob.keep(0, 1), KeyFob.FULL);
        due.is("keep 0", desk.fob.keep(188, 0), 400);
    }

    /** OUT of MAKE holds the ID at 41, which a LIST of GET takes. */
    private static void chain(Due due) {
        Desk desk = new Desk();
        desk.make("h", "a");
        desk.make("h", "b");
        byte[] head = Desk.getMap("h").list(3, new byte[16]).bytes();
        desk.write(Bytes.part(head, 0, head.length - 16));
        due.is("keep(41, 16)", desk.fob.keep(41, 16), head.length);
        desk.fob.touch();
        due.is("get of the ID that was kept", desk.fob.send(Desk.GET), 0);
        due.is("ID", Bytes.part(desk.out(), 3, 16), desk.key(1, 2));
        due.is("one is FOUND", desk.fob.count(5), 0);

        desk.write(Bytes.of(1, 2));
        desk.fob.keep(0, 3);
        desk.fob.trim(2);
        due.is("the tape of before stands first", desk.fob.count(7), 2);
        desk.fob.trim(0);
        desk.send(Desk.PIN, new MapOf().number(1, 1));
        due.is("keep a whole map", desk.fob.keep(0, 2), 2);
        desk.write(Bytes.of(1));
        due.is("it is kind 1", desk.fob.send(Desk.PIN), 0);
    }
}
