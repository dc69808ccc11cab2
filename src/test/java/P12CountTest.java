/** Promise 12: count. */
public final class P12CountTest {
    public static void main(String[] args) {
        Sentences.run(P12CountTest.class);
    }

    @Says("What 0 KEYS,")
    static void keys(Due due) {
        Desk desk = new Desk();
        for (int n = 0; n < 10; n++) {
            due.is("KEYS", desk.fob.count(0), n);
            desk.make("h", "u" + n);
        }
        due.is("KEYS", desk.fob.count(0), 10);
        desk.make("h", "u10");
        due.is("KEYS behind an eleventh", desk.fob.count(0), 10);
        desk.send(Desk.MAKE, Desk.makeMap("h", "u3"));
        due.is("KEYS behind one made again", desk.fob.count(0), 10);
        desk.fob.touch();
        desk.fob.send(Desk.RESET);
        due.is("KEYS behind RESET", desk.fob.count(0), 0);
    }

    @Says("1 TRIES, 2")
    static void tries(Due due) {
        Desk desk = new Desk();
        desk.setPin(Desk.PIN_A);
        for (int tries = 8; tries > 0; tries--) {
            due.is("TRIES", desk.fob.count(1), tries);
            desk.fob.power();
            desk.tryPin(Desk.PIN_B);
        }
        due.is("TRIES", desk.fob.count(1), 0);
        desk.tryPin(Desk.PIN_B);
        due.is("TRIES", desk.fob.count(1), 0);
    }

    @Says("2 MISSES,")
    static void misses(Due due) {
        Desk desk = new Desk();
        desk.setPin(Desk.PIN_A);
        for (int misses = 0; misses < 3; misses++) {
            due.is("MISSES", desk.fob.count(2), misses);
            desk.tryPin(Desk.PIN_B);
        }
        due.is("MISSES", desk.fob.count(2), 3);
        desk.tryPin(Desk.PIN_B);
        due.is("MISSES", desk.fob.count(2), 3);
        desk.fob.power();
        due.is("MISSES", desk.fob.count(2), 0);
    }

    @Says("3 whether there is a PIN (1, 0),")
    static void pin(Due due) {
        Desk desk = new Desk();
        due.is("at first", desk.fob.count(3), 0);
        desk.setPin(new byte[16]);
        due.is("behind kind 2", desk.fob.count(3), 1);
        desk.fob.power();
        due.is("behind power", desk.fob.count(3), 1);
        desk.fob.touch();
        desk.fob.send(Desk.RESET);
        due.is("behind RESET", desk.fob.count(3), 0);
    }

    @Says("4 whether it is TOUCHED,")
    static void touched(Due due) {
        Desk desk = new Desk();
        due.is("at first", desk.fob.count(4), 0);
        desk.fob.touch();
        due.is("behind touch", desk.fob.count(4), 1);
        desk.fob.touch();
        due.is("behind another", desk.fob.count(4), 1);
        desk.make("h", "u");
        due.is("behind MAKE", desk.fob.count(4), 0);
    }

    @Says("5 KEYS that WAIT,")
    static void waiting(Due due) {
        Desk desk = Desk.with("h", "abcdefghij");
        due.is("behind MAKE", desk.fob.count(5), 0);
        desk.get("h");
        due.is("behind GET of ten", desk.fob.count(5), 9);
        desk.fob.send(Desk.NEXT);
        due.is("behind NEXT", desk.fob.count(5), 8);
        desk.fob.send(Desk.PIN);
        due.is("behind PIN", desk.fob.count(5), 0);
    }

    @Says("6 bytes of OUT,")
    static void bytesOfOut(Due due) {
        Desk desk = new Desk();
        due.is("at first", desk.fob.count(6), 0);
        desk.make("h", "a");
        due.is("of MAKE", desk.fob.count(6), 188);
        desk.make("h", "sixteen bytes 16");
        desk.get("h");
        due.is("of GET, the most", desk.fob.count(6), 146);
        desk.fob.send(Desk.NEXT);
        due.is("of NEXT, the least", desk.fob.count(6), 129);
        desk.send(Desk.PIN, new MapOf().number(1, 1));
        due.is("of PIN", desk.fob.count(6), 3);
        desk.fob.send(0);
        due.is("of no command", desk.fob.count(6), 0);
    }

    @Says("7 of the tape,")
    static void bytesOfTape(Due due) {
        Desk desk = Desk.with("h", "a");
        due.is("behind a command", desk.fob.count(7), 0);
        desk.fob.feed(1, 2, 3, 4, 5);
        due.is("behind feed", desk.fob.count(7), 20);
        desk.fob.keep(1, 100);
        due.is("behind keep", desk.fob.count(7), 120);
        desk.fob.trim(119);
        due.is("behind trim", desk.fob.count(7), 119);
        desk.fob.power();
        due.is("behind power", desk.fob.count(7), 119);
        for (int i = 0; i < 20; i++) {
            desk.fob.feed(1, 2, 3, 4, 5);
        }
        due.is("behind more than it takes", desk.fob.count(7), 399);
    }

    @Says("8 TURN,")
    static void turn(Due due) {
        Desk desk = new Desk();
        due.is("at first", desk.fob.count(8), 1);
        desk.fob.power();
        due.is("behind power", desk.fob.count(8), 2);
        desk.make("h", "u");
        due.is("behind MAKE", desk.fob.count(8), 3);
        desk.get("h");
        due.is("behind GET", desk.fob.count(8), 3);
        desk.setPin(Desk.PIN_A);
        due.is("behind kind 2", desk.fob.count(8), 4);
        desk.changePin(Desk.PIN_A, Desk.PIN_B);
        due.is("behind kind 3", desk.fob.count(8), 5);
        desk.tryPin(Desk.PIN_B);
        due.is("behind kind 4", desk.fob.count(8), 5);
        desk.fob.touch();
        desk.fob.send(Desk.RESET);
        due.is("behind RESET", desk.fob.count(8), 1);
    }

    @Says("9 SIGNATURES made since the beginning (or RESET).")
    static void signatures(Due due) {
        Desk desk = new Desk();
        due.is("at first", desk.fob.count(9), 0);
        desk.make("h", "a");
        due.is("behind MAKE", desk.fob.count(9), 1);
        desk.make("h", "b");
        desk.get("h");
        due.is("behind GET", desk.fob.count(9), 3);
        desk.fob.send(Desk.NEXT);
        due.is("behind NEXT", desk.fob.count(9), 4);
        desk.fob.send(Desk.NEXT);
        desk.send(Desk.MAKE, Desk.makeMap("h", "a"));
        desk.send(Desk.GET, Desk.getMap("h"));
        desk.fob.check();
        desk.fob.forged(5);
        desk.fob.power();
        due.is("behind refused commands and other calls", desk.fob.count(9), 4);
        desk.make("h", "a");
        due.is("behind a KEY made again", desk.fob.count(9), 5);
        desk.fob.touch();
        desk.fob.send(Desk.RESET);
        due.is("behind RESET", desk.fob.count(9), 0);
        desk.make("h", "a");
        due.is("behind MAKE", desk.fob.count(9), 1);
    }

    @Says("(or RESET). OUTSIDE.")
    static void outside(Due due) {
        int[] never = {-1, -2, 10, 11, 255, 256, Integer.MAX_VALUE, Integer.MIN_VALUE};
        Desk desk = new Desk();
        for (int what : never) {
            due.is("count(" + what + ") at first", desk.fob.count(what), KeyFob.OUTSIDE);
        }
        desk.make("h", "u");
        for (int what : never) {
            due.is("count(" + what + ")", desk.fob.count(what), KeyFob.OUTSIDE);
        }
        due.is("count(0)", desk.fob.count(0), 1);
        due.is("count(9)", desk.fob.count(9), 1);
    }
}
