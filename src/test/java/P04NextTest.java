/** Terms 4: NEXT, and what ends the waiting. */
public final class P04NextTest {
    public static void main(String[] args) {
        Sentences.run(P04NextTest.class);
    }

    /** Three KEYS of a HOUSE; the one of TURN 3 has ASSERTED, those of TURN 2 and 1 WAIT. */
    private static Desk twoWait() {
        Desk desk = Desk.with("h", "abc");
        desk.get("h");
        return desk;
    }

    @Says("NEXT (8), without a map (the tape is not looked at):")
    static void tapeIsNotLookedAt(Due due) {
        byte[][] tapes = {new byte[0], Bytes.of(1, 2, 3), Desk.getMap("i").bytes(), new byte[400]};
        for (byte[] tape : tapes) {
            Desk desk = twoWait();
            due.is("NEXT with a tape of " + tape.length, desk.send(Desk.NEXT, tape), 0);
            due.is("OUT", desk.out(), Desk.asserted("h", "b", 2, 1, 1).bytes());
        }
        due.is("48 with a tape", new Desk().send(Desk.NEXT, Bytes.of(0xFF)), 48);
    }

    @Says("48: none WAIT.")
    static void noneWait(Due due) {
        Desk desk = new Desk();
        due.is("at first", desk.fob.send(Desk.NEXT), 48);
        desk.make("h", "a");
        due.is("behind MAKE", desk.fob.send(Desk.NEXT), 48);
        desk.get("h");
        due.is("behind a GET of one", desk.fob.send(Desk.NEXT), 48);
        desk.make("h", "b");
        desk.get("h");
        due.is("the one that WAITS", desk.fob.send(Desk.NEXT), 0);
        String before = desk.counts();
        due.is("behind the last", desk.fob.send(Desk.NEXT), 48);
        due.is("again", desk.fob.send(Desk.NEXT), 48);
        due.is("nothing but OUT has changed", desk.counts(), before.replace(" 129 ", " 0 "));
    }

    @Says("127: as above (it waits no more).")
    static void counterEnds(Due due) {
        Desk desk = Desk.with("h", "abc");
        desk.fob.advance(1, -1);
        due.is("GET", desk.get("h"), 0);
        due.is("its COUNTER is the last", desk.fob.send(Desk.NEXT), 127);
        due.is("it waits no more, the other one does", desk.fob.count(5), 1);
        due.is("bytes of OUT", desk.fob.count(6), 0);
        due.is("its COUNTER stays", desk.key(1, 3), Bytes.of(255, 255, 255, 255));
        due.is("SIGNATURES", desk.fob.count(9), 4);
        due.is("the other one", desk.fob.send(Desk.NEXT), 0);
        due.is("OUT", desk.out(), Desk.asserted("h", "a", 1, 1, 1).bytes());
        due.is("none WAIT", desk.fob.send(Desk.NEXT), 48);
    }

    @Says("127: as above (it waits no more).")
    static void counterEndsWhileItWaits(Due due) {
        Desk desk = twoWait();
        desk.fob.advance(1, -1);
        desk.fob.advance(0, -2);
        due.is("advanced to the last", desk.fob.send(Desk.NEXT), 127);
        due.is("advanced to one before", desk.fob.send(Desk.NEXT), 0);
        due.is("OUT", desk.out(), Desk.asserted("h", "a", 1, 1, 0xFFFFFFFFL).bytes());
    }

    @Says("Else the first that WAITS ASSERTS likewise (without 5),")
    static void firstAsserts(Due due) {
        Desk desk = twoWait();
        desk.fob.advance(1, 300);
        desk.fob.touch();
        due.is("NEXT", desk.fob.send(Desk.NEXT), 0);
        due.is("OUT", desk.out(), Desk.asserted("h", "b", 2, 1, 301).bytes());
        due.is("COUNTER", desk.key(1, 3), Bytes.four(301));
        due.is("that of the other stays", desk.key(0, 3), new byte[4]);
        due.is("TOUCHED is not used", desk.fob.count(4), 1);
        due.is("SIGNATURES", desk.fob.count(9), 5);
        due.is("check()", desk.fob.check(), 1);
        due.is("NEXT", desk.fob.send(Desk.NEXT), 0);
        due.is("OUT", desk.out(), Desk.asserted("h", "a", 1, 1, 1).bytes());
        due.is("check()", desk.fob.check(), 1);
    }

    @Says("and waits no more.")
    static void waitsNoMore(Due due) {
        Desk desk = Desk.with("h", "abcdefghij");
        due.is("GET", desk.get("h"), 0);
        for (int left = 9; left > 0; left--) {
            due.is("KEYS that WAIT", desk.fob.count(5), left);
            due.is("NEXT", desk.fob.send(Desk.NEXT), 0);
            due.is("its ID", desk.out(3, 16), Desk.id(left));
        }
        due.is("KEYS that WAIT", desk.fob.count(5), 0);
        due.is("NEXT", desk.fob.send(Desk.NEXT), 48);
    }

    private static void ended(Due due, String behind, Desk desk) {
        due.is("KEYS that WAIT behind " + behind, desk.fob.count(5), 0);
        due.is("NEXT behind " + behind, desk.fob.send(Desk.NEXT), 48);
    }

    @Says("What WAITS waits no more behind any command but NEXT (whatever its STATUS).")
    static void anyCommandEndsIt(Due due) {
        int[] commands = {1, 2, 6, 7, 0, 3, 9, -8, Integer.MAX_VALUE};
        for (int command : commands) {
            Desk desk = twoWait();
            due.holds("send(" + command + ") is refused", desk.fob.send(command) != 0);
            ended(due, "a refused " + command, desk);
        }
        Desk desk = twoWait();
        due.is("PIN kind 1", desk.send(Desk.PIN, new MapOf().number(1, 1)), 0);
        ended(due, "PIN", desk);
        desk = twoWait();
        due.is("MAKE", desk.make("i", "x"), 0);
        ended(due, "MAKE", desk);
        desk = twoWait();
        desk.fob.touch();
        due.is("RESET", desk.fob.send(Desk.RESET), 0);
        ended(due, "RESET", desk);
        desk = twoWait();
        due.is("GET that finds none", desk.get("i"), 46);
        ended(due, "GET", desk);
        desk = twoWait();
        due.is("GET without a touch", desk.send(Desk.GET, Desk.getMap("h")), 39);
        ended(due, "GET without a touch", desk);
        desk = twoWait();
        due.is("GET of one", desk.send(Desk.GET, Desk.getMap("h").list(3, Desk.id(1)).flag(5, false)), 0);
        ended(due, "GET of one", desk);
    }

    @Says("What WAITS waits no more behind any command but NEXT (whatever its STATUS).")
    static void nextAndOtherCallsLeaveIt(Due due) {
        Desk desk = twoWait();
        desk.fob.touch();
        desk.fob.feed(1, 2, 3, 4, 5);
        desk.fob.keep(0, 5);
        desk.fob.trim(0);
        desk.fob.advance(0, 1);
        desk.fob.check();
        desk.fob.forged(3);
        desk.fob.out(0);
        desk.fob.key(0, 0, 0);
        due.is("calls that are no commands", desk.fob.count(5), 2);
        due.is("another GET", desk.get("h"), 0);
        due.is("those of the new one WAIT", desk.fob.count(5), 2);
        due.is("NEXT", desk.fob.send(Desk.NEXT), 0);
        due.is("the other one still WAITS", desk.fob.count(5), 1);
    }
}
