/** Terms 2: what the fob has, and what it has at first. */
public final class P04FobTest {
    public static void main(String[] args) {
        Sentences.run(P04FobTest.class);
    }

    @Says("THE FOB has a MASTER, 32 bytes, at first HASH(one byte 0), and a TURN, 0 at first.")
    static void masterAndTurn(Due due) {
        Desk desk = new Desk();
        due.is("TURN behind the TOKEN of TURN 0", desk.fob.count(8), 1);
        desk.setPin(Desk.PIN_A);
        due.is("TOKEN of TURN 1", desk.token(Desk.PIN_A), Bytes.hash(Bytes.hash(Bytes.of(0)), Bytes.four(1)));
    }

    @Says("A FRESH row is HASH(MASTER, TURN as 4 bytes, the highest first); TURN is one more then.")
    static void freshRows(Due due) {
        int[] turns = {1, 2, 127, 128, 255, 256, 257, 258, 400};
        for (int turn : turns) {
            Desk desk = new Desk();
            desk.turnTo(turn);
            desk.setPin(Desk.PIN_A);
            due.is("TURN", desk.fob.count(8), turn + 1);
            due.is("TOKEN of TURN " + turn, desk.token(Desk.PIN_A),
                    Bytes.hash(Desk.MASTER, Bytes.of(0, 0, turn >> 8, turn & 255)));
        }
    }

    @Says("At first: TOKEN is a FRESH row;")
    static void firstToken(Due due) {
        // TOKEN of TURN 0 speaks for no PIN that could be set, so TURN alone shows that it was drawn.
        Desk desk = new Desk();
        due.is("TURN", desk.fob.count(8), 1);
        desk.make("h", "u");
        due.is("the first KEY has the FRESH row of TURN 1", desk.key(0, 2), Desk.id(1));
    }

    @Says("FRESH row; there is no PIN;")
    static void noPin(Due due) {
        Desk desk = new Desk();
        due.is("count(3)", desk.fob.count(3), 0);
        due.is("a PIN of bytes 0 is TRIED", desk.tryPin(new byte[16]), 53);
        due.is("MAKE without PROOF", desk.make("h", "u"), 0);
        due.is("the first PIN", desk.setPin(Desk.PIN_A), 0);
    }

    @Says("8 TRIES;")
    static void eightTries(Due due) {
        Desk desk = new Desk();
        due.is("count(1)", desk.fob.count(1), 8);
        desk.setPin(Desk.PIN_A);
        for (int left = 7; left > 0; left--) {
            desk.fob.power();
            due.is("a miss that leaves " + left, desk.tryPin(Desk.PIN_B), 49);
        }
        desk.fob.power();
        due.is("the eighth miss", desk.tryPin(Desk.PIN_B), 50);
    }

    @Says("0 MISSES;")
    static void noMisses(Due due) {
        Desk desk = new Desk();
        due.is("count(2)", desk.fob.count(2), 0);
        desk.setPin(Desk.PIN_A);
        due.is("a miss", desk.tryPin(Desk.PIN_B), 49);
        due.is("a second", desk.tryPin(Desk.PIN_B), 49);
        due.is("the third", desk.tryPin(Desk.PIN_B), 52);
    }

    @Says("it is not TOUCHED; no KEYS.")
    static void notTouchedAndNoKeys(Due due) {
        Desk desk = new Desk();
        due.is("count(4)", desk.fob.count(4), 0);
        due.is("RESET", desk.fob.send(Desk.RESET), 39);
        due.is("MAKE", desk.send(Desk.MAKE, Desk.makeMap("h", "u")), 39);
        due.is("count(0)", desk.fob.count(0), 0);
        due.is("GET", desk.send(Desk.GET, Desk.getMap("h")), 46);
        due.is("key(0, 0, 0)", desk.fob.key(0, 0, 0), KeyFob.NONE);
    }

    @Says("KEYS, at most 10,")
    static void atMostTen(Due due) {
        Desk desk = Desk.with("h", "abcdefghi");
        due.is("nine KEYS", desk.fob.count(0), 9);
        due.is("the tenth", desk.make("h", "j"), 0);
        due.is("ten KEYS", desk.fob.count(0), 10);
        due.is("the eleventh", desk.make("h", "k"), 40);
        due.is("ten KEYS", desk.fob.count(0), 10);
        due.is("there is no eleventh", desk.fob.key(10, 1, 0), KeyFob.NONE);
    }

    @Says("in the order in which they were made:")
    static void inOrder(Due due) {
        Desk desk = Desk.with("h", "abcdefghij");
        due.is("USERS", desk.users(), "a b c d e f g h i j");
        for (int k = 0; k < 10; k++) {
            due.is("ID of " + k, desk.key(k, 2), Desk.id(k + 1));
        }
        desk.make("h", "a");
        due.is("the one made again is the latest", desk.users(), "b c d e f g h i j a");
    }

    @Says("each has a HOUSE (32 bytes),")
    static void eachHasAHouse(Due due) {
        Desk desk = Desk.with("a house with thirty-two letters.", "u");
        desk.make("i", "u");
        due.is("HOUSE", desk.key(0, 0), Bytes.hash(Bytes.text("a house with thirty-two letters.")));
        due.is("HOUSE of the second", desk.key(1, 0), Bytes.hash(Bytes.text("i")));
    }

    @Says("a USER (1 to 16 bytes),")
    static void eachHasAUser(Due due) {
        for (int n = 1; n <= 16; n++) {
            Desk desk = new Desk();
            desk.fob.touch();
            due.is("MAKE", desk.send(Desk.MAKE, Desk.makeMap("h", "u").row(3, Bytes.run(n, n))), 0);
            due.is("USER of " + n, desk.key(0, 1), Bytes.run(n, n));
        }
        due.is("no byte", new Desk().send(Desk.MAKE, Desk.makeMap("h", "")), 3);
        due.is("17 bytes", new Desk().send(Desk.MAKE, Desk.makeMap("h", "u").row(3, Bytes.run(1, 17))), 3);
    }

    @Says("a number d, an ID (the first 16 bytes of HASH(d)),")
    static void eachHasAnId(Due due) {
        Desk desk = Desk.with("h", "ab");
        due.is("ID", desk.key(0, 2), Bytes.part(Bytes.hash(Desk.secret(1)), 0, 16));
        due.is("ID of the second", desk.key(1, 2), Bytes.part(Bytes.hash(Desk.secret(2)), 0, 16));
    }

    @Says("a COUNTER (0 .. 2^32 - 1).")
    static void eachHasACounter(Due due) {
        Desk desk = Desk.with("h", "a");
        due.is("the least", desk.key(0, 3), Bytes.of(0, 0, 0, 0));
        desk.fob.advance(0, -2);
        due.is("GET", desk.get("h"), 0);
        due.is("the most", desk.key(0, 3), Bytes.of(255, 255, 255, 255));
        due.is("GET", desk.get("h"), 127);
        due.is("it does not wrap around", desk.key(0, 3), Bytes.of(255, 255, 255, 255));
    }
}
