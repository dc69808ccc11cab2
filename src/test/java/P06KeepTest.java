/** Promise 6: keep. */
public final class P06KeepTest {
    public static void main(String[] args) {
        Sentences.run(P06KeepTest.class);
    }

    /** OUT is A1 01 08. */
    private static Desk withThree() {
        Desk desk = new Desk();
        desk.send(Desk.PIN, new MapOf().number(1, 1));
        return desk;
    }

    @Says("The bytes of OUT from a on, n of them, come behind the tape: how many it has.")
    static void howMany(Due due) {
        Desk desk = withThree();
        due.is("keep(2, 1)", desk.fob.keep(2, 1), 1);
        due.is("keep(0, 3)", desk.fob.keep(0, 3), 4);
        due.is("keep(1, 2)", desk.fob.keep(1, 2), 6);
        due.is("count(7)", desk.fob.count(7), 6);
        due.is("OUT stays", desk.out(), Bytes.of(0xA1, 1, 8));
        due.is("feed behind it", desk.fob.feed(0, 0, 0, 0, 0), 26);
        due.is("keep behind that", desk.fob.keep(0, 1), 27);
    }

    @Says("The bytes of OUT from a on, n of them, come behind the tape: how many it has.")
    static void whichBytes(Due due) {
        Desk desk = withThree();
        due.is("keep A1 01", desk.fob.keep(0, 2), 2);
        due.is("keep 01", desk.fob.keep(1, 1), 3);
        due.is("the tape is kind 1", desk.fob.send(Desk.PIN), 0);
        due.is("keep all", desk.fob.keep(0, 3), 3);
        due.is("the tape is kind 8", desk.fob.send(Desk.PIN), 2);

        // OUT of MAKE holds the ID at 41, which the LIST of a GET takes.
        Desk chain = Desk.with("h", "ab");
        byte[] head = Desk.getMap("h").list(3, new byte[16]).bytes();
        chain.write(Bytes.part(head, 0, head.length - 16));
        due.is("keep(41, 16)", chain.fob.keep(41, 16), head.length);
        chain.fob.touch();
        due.is("GET of the ID that was kept", chain.fob.send(Desk.GET), 0);
        due.is("its ID", chain.out(3, 16), Desk.id(2));
        due.is("none WAIT", chain.fob.count(5), 0);
    }

    @Says("The bytes of OUT from a on, n of them, come behind the tape: how many it has.")
    static void noBytes(Due due) {
        due.is("keep(0, 0) of no OUT", new Desk().fob.keep(0, 0), 0);
        Desk desk = withThree();
        due.is("keep(0, 0)", desk.fob.keep(0, 0), 0);
        due.is("keep(3, 0)", desk.fob.keep(3, 0), 0);
        desk.fob.feed(1, 2, 3, 4, 5);
        due.is("keep(2, 0) behind twenty", desk.fob.keep(2, 0), 20);
    }

    @Says("OUTSIDE: they are not there;")
    static void outside(Due due) {
        Desk empty = new Desk();
        due.is("keep(0, 1) of no OUT", empty.fob.keep(0, 1), KeyFob.OUTSIDE);
        due.is("keep(1, 0) of no OUT", empty.fob.keep(1, 0), KeyFob.OUTSIDE);
        int max = Integer.MAX_VALUE, min = Integer.MIN_VALUE;
        int[][] outside = {{-1, 1}, {0, -1}, {0, 4}, {3, 1}, {4, 0}, {2, 2}, {-1, 0}, {-1, 4}, {1, max}, {max, max},
            {max, 1}, {max, 0}, {min, 2}, {min, 0}, {2, min}, {min, min}, {-3, 6}, {5, -3}, {3, -1}};
        Desk desk = withThree();
        desk.fob.feed(1, 2, 3, 4, 5);
        for (int[] pair : outside) {
            due.is("keep(" + pair[0] + ", " + pair[1] + ")", desk.fob.keep(pair[0], pair[1]), KeyFob.OUTSIDE);
        }
        due.is("the tape stays", desk.fob.count(7), 20);
        due.is("keep(0, 3)", desk.fob.keep(0, 3), 23);
        Desk used = Desk.with("h", "u");
        due.is("keep(187, 1) of 188", used.fob.keep(187, 1), 1);
        due.is("keep(188, 1) of 188", used.fob.keep(188, 1), KeyFob.OUTSIDE);
        due.is("keep(0, 189) of 188", used.fob.keep(0, 189), KeyFob.OUTSIDE);
        used.fob.send(0);
        due.is("what OUT had before", used.fob.keep(0, 1), KeyFob.OUTSIDE);
    }

    @Says("they are not there; FULL.")
    static void full(Due due) {
        Desk desk = Desk.with("h", "u");
        due.is("keep 188", desk.fob.keep(0, 188), 188);
        due.is("keep 188", desk.fob.keep(0, 188), 376);
        due.is("keep 188", desk.fob.keep(0, 188), KeyFob.FULL);
        due.is("keep 25", desk.fob.keep(0, 25), KeyFob.FULL);
        due.is("the tape stays", desk.fob.count(7), 376);
        due.is("keep 189, which are not there", desk.fob.keep(0, 189), KeyFob.OUTSIDE);
        due.is("keep 24", desk.fob.keep(164, 24), 400);
        due.is("keep 1", desk.fob.keep(0, 1), KeyFob.FULL);
        due.is("keep 0", desk.fob.keep(188, 0), 400);
        due.is("keep(188, 1), which is not there", desk.fob.keep(188, 1), KeyFob.OUTSIDE);
        due.is("the tape stays", desk.fob.count(7), 400);
    }
}
