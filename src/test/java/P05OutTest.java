/** Promise 5: out. */
public final class P05OutTest {
    public static void main(String[] args) {
        Sentences.run(P05OutTest.class);
    }

    @Says("Byte i of OUT;")
    static void bytes(Due due) {
        Desk desk = new Desk();
        desk.send(Desk.PIN, new MapOf().number(1, 1));
        due.is("out(0)", desk.fob.out(0), 0xA1);
        due.is("out(1)", desk.fob.out(1), 1);
        due.is("out(2)", desk.fob.out(2), 8);
        byte[] want = Desk.made("h", 1, 65);
        desk.make("h", "u");
        for (int i = 0; i < 188; i++) {
            due.is("out(" + i + ")", desk.fob.out(i), want[i] & 255);
        }
    }

    @Says("Byte i of OUT;")
    static void otherCallsLeaveIt(Due due) {
        Desk desk = Desk.with("h", "u");
        byte[] before = desk.out();
        desk.fob.feed(1, 2, 3, 4, 5);
        desk.fob.keep(3, 5);
        desk.fob.trim(0);
        desk.fob.touch();
        desk.fob.advance(0, 9);
        desk.fob.check();
        desk.fob.forged(7);
        desk.fob.power();
        due.is("OUT", desk.out(), before);
    }

    @Says("of OUT; NONE.")
    static void none(Due due) {
        int[] never = {-1, -2, 188, 189, 200, 400, Integer.MAX_VALUE, Integer.MIN_VALUE};
        Desk desk = new Desk();
        due.is("out(0) of no OUT", desk.fob.out(0), KeyFob.NONE);
        for (int i : never) {
            due.is("out(" + i + ") of no OUT", desk.fob.out(i), KeyFob.NONE);
        }
        desk.make("h", "u");
        due.holds("out(187) of 188", desk.fob.out(187) >= 0);
        for (int i : never) {
            due.is("out(" + i + ") of 188", desk.fob.out(i), KeyFob.NONE);
        }
        desk.send(Desk.PIN, new MapOf().number(1, 1));
        due.is("out(2) of 3", desk.fob.out(2), 8);
        for (int i = 3; i < 190; i++) {
            due.is("out(" + i + ") of 3", desk.fob.out(i), KeyFob.NONE);
        }
        desk.fob.send(0);
        due.is("out(0) behind a refused command", desk.fob.out(0), KeyFob.NONE);
    }
}
