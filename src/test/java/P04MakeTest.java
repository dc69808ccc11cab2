/** Terms 4: MAKE. */
public final class P04MakeTest {
    private static final byte[] OTHER = Bytes.run(9, 16);

    public static void main(String[] args) {
        Sentences.run(P04MakeTest.class);
    }

    private static MapOf map() {
        return Desk.makeMap("h", "u");
    }

    private static NameOf name(Due due, int name) {
        return new NameOf(due, Desk.MAKE, name, P04MakeTest::map, 39);
    }

    /** A fob with a PIN and the TOKEN of TURN 1, TOUCHED. */
    private static Desk withPin() {
        Desk desk = new Desk();
        desk.setPin(Desk.PIN_A);
        desk.fob.touch();
        return desk;
    }

    @Says("MAKE (1): 1 r! 32 the WORD;")
    static void word(Due due) {
        name(due, 1).isOfKind('r').rowHas(32, 32).mustBeThere();
        Desk desk = new Desk();
        desk.fob.touch();
        byte[] word = Bytes.run(77, 32);
        due.is("MAKE", desk.send(Desk.MAKE, map().row(1, word)), 0);
        due.holds("the WORD is signed", Desk.isSigned(Bytes.join(desk.out(4, 117), word), desk.key(0, 4),
                desk.out(124, 64)));
    }

    @Says("2 t! 1 to 32 bytes;")
    static void text(Due due) {
        name(due, 2).isOfKind('t').textHas(1, 32).mustBeThere();
    }

    @Says("3 r! 1 to 16 the USER;")
    static void user(Due due) {
        name(due, 3).isOfKind('r').rowHas(1, 16).mustBeThere();
        Desk desk = Desk.with("h", "u");
        due.is("USER", desk.key(0, 1), Bytes.text("u"));
    }

    @Says("5 l of 16 each;")
    static void list(Due due) {
        name(due, 5).isOfKind('l').rowsOfListHave(16).mayBeMissing(39);
    }

    @Says("8 r 16 PROOF.")
    static void proofIsARow(Due due) {
        name(due, 8).isOfKind('r').rowHas(16, 16).mayBeMissing(39);
    }

    @Says("The HOUSE is HASH(2).")
    static void house(Due due) {
        byte[][] texts = {Bytes.of(0), Bytes.of(255), Bytes.text("house.example"), Bytes.run(5, 32)};
        Desk desk = new Desk();
        for (int k = 0; k < texts.length; k++) {
            desk.fob.touch();
            due.is("MAKE", desk.send(Desk.MAKE, map().text(2, texts[k])), 0);
            due.is("HOUSE of " + k, desk.key(k, 0), Bytes.hash(texts[k]));
        }
    }

    @Says("25: some ID in 5 is that of a KEY of this HOUSE.")
    static void excluded(Due due) {
        Desk desk = Desk.with("h", "ab");
        desk.make("other", "a");
        desk.fob.touch();
        String before = desk.counts();
        due.is("ID of the first KEY", desk.send(Desk.MAKE, map().list(5, Desk.id(1))), 25);
        due.is("ID of the second", desk.send(Desk.MAKE, map().list(5, OTHER, Desk.id(2), OTHER)), 25);
        due.is("for a USER that has a KEY too", desk.send(Desk.MAKE, Desk.makeMap("h", "a").list(5, Desk.id(2))), 25);
        byte[][] rows = new byte[15][];
        java.util.Arrays.fill(rows, OTHER);
        rows[14] = Desk.id(1);
        due.is("the last of fifteen", desk.send(Desk.MAKE, map().list(5, rows)), 25);
        due.is("nothing has changed", desk.counts(), before.replace(" 188 ", " 0 "));
        due.is("ID of another HOUSE", desk.send(Desk.MAKE, map().list(5, Desk.id(3))), 0);
    }

    @Says("25: some ID in 5 is that of a KEY of this HOUSE.")
    static void notExcluded(Due due) {
        Desk desk = Desk.with("h", "ab");
        desk.make("h", "a");
        byte[][] near = {Bytes.turned(Desk.id(2), 0), Bytes.turned(Desk.id(2), 127), OTHER, new byte[16]};
        desk.fob.touch();
        due.is("IDS that are near", desk.send(Desk.MAKE, map().list(5, near)), 0);
        desk.fob.touch();
        due.is("ID of a KEY that is no more", desk.send(Desk.MAKE, map().list(5, Desk.id(1))), 0);
        desk.fob.touch();
        due.is("an empty LIST", desk.send(Desk.MAKE, map().list(5)), 0);
    }

    @Says("If there is a PIN: 54 without PROOF;")
    static void withoutProof(Due due) {
        Desk desk = withPin();
        due.is("MAKE", desk.send(Desk.MAKE, map()), 54);
        due.is("nothing has changed", desk.counts(), "0 8 0 1 1 0 0 0 2 0");
        due.is("with PROOF", desk.send(Desk.MAKE, map().row(8, Desk.proof(1))), 0);
    }

    @Says("51 if PROOF is not the first 16 bytes of MAC(TOKEN, WORD).")
    static void wrongProof(Due due) {
        byte[] proof = Desk.proof(1);
        for (int from = 0; from < 128; from += 32) {
            Desk desk = withPin();
            for (int bit = from; bit < from + 32; bit++) {
                due.is("bit " + bit + " wrong", desk.send(Desk.MAKE, map().row(8, Bytes.turned(proof, bit))), 51);
            }
            due.is("nothing has changed", desk.counts(), "0 8 0 1 1 0 0 0 2 0");
            due.is("right", desk.send(Desk.MAKE, map().row(8, proof)), 0);
        }
    }

    @Says("51 if PROOF is not the first 16 bytes of MAC(TOKEN, WORD).")
    static void proofOfOtherThings(Due due) {
        Desk desk = withPin();
        byte[] proof = Desk.proof(1);
        due.is("of another WORD", desk.send(Desk.MAKE, map().row(1, Bytes.run(4, 32)).row(8, proof)), 51);
        due.is("of the TOKEN before the PIN", desk.send(Desk.MAKE, map().row(8, Desk.proof(0))), 51);
        due.is("of bytes 0", desk.send(Desk.MAKE, map().row(8, new byte[16])), 51);
        due.is("the PIN itself", desk.send(Desk.MAKE, map().row(8, Desk.PIN_A)), 51);
        desk.fob.power();
        desk.fob.touch();
        due.is("of the TOKEN before power", desk.send(Desk.MAKE, map().row(8, proof)), 51);
        due.is("of the TOKEN of now", desk.send(Desk.MAKE, map().row(8, Desk.proof(2))), 0);
    }

    @Says("(Without a PIN, PROOF is not looked at.)")
    static void proofWithoutPin(Due due) {
        Desk desk = new Desk();
        desk.fob.touch();
        due.is("a wrong PROOF", desk.send(Desk.MAKE, map().row(8, OTHER)), 0);
        due.is("the byte", desk.fob.out(36), 65);
        desk.fob.touch();
        due.is("a right one", desk.send(Desk.MAKE, map().row(8, Desk.proof(0))), 0);
        due.is("the byte", desk.fob.out(36), 65);
    }

    @Says("40: there are 10 KEYS, none of this HOUSE and USER.")
    static void full(Due due) {
        Desk desk = new Desk();
        for (int i = 0; i < 9; i++) {
            desk.make(i % 2 == 0 ? "even" : "odd", "user" + i);
        }
        due.is("the tenth", desk.make("odd", "user9"), 0);
        desk.fob.touch();
        String before = desk.counts();
        due.is("the eleventh", desk.send(Desk.MAKE, Desk.makeMap("even", "user10")), 40);
        due.is("a USER of the other HOUSE", desk.send(Desk.MAKE, Desk.makeMap("even", "user1")), 40);
        due.is("another HOUSE", desk.send(Desk.MAKE, Desk.makeMap("h", "user1")), 40);
        due.is("a USER that begins alike", desk.send(Desk.MAKE, Desk.makeMap("even", "user")), 40);
        due.is("a USER that goes on", desk.send(Desk.MAKE, Desk.makeMap("even", "user44")), 40);
        due.is("nothing has changed", desk.counts(), before.replace(" 188 ", " 0 "));
        due.is("the first", desk.send(Desk.MAKE, Desk.makeMap("even", "user0")), 0);
        due.is("the last of before", desk.make("odd", "user9"), 0);
        due.is("one between", desk.make("even", "user4"), 0);
        due.is("KEYS", desk.fob.count(0), 10);
        due.is("all of them", desk.users(), "user1 user2 user3 user5 user6 user7 user8 user0 user9 user4");
    }

    @Says("39: it is not TOUCHED. Else it is")
    static void notTouched(Due due) {
        Desk desk = new Desk();
        due.is("MAKE", desk.send(Desk.MAKE, map()), 39);
        due.is("nothing has changed", desk.counts(), "0 8 0 0 0 0 0 0 1 0");
        desk.make("h", "u");
        due.is("for a USER that has a KEY", desk.send(Desk.MAKE, map()), 39);
        due.is("the KEY stays", desk.key(0, 2), Desk.id(1));
        desk.fob.touch();
        desk.fob.power();
        due.is("behind power", desk.send(Desk.MAKE, map()), 39);
    }

    @Says("Else it is not TOUCHED any more;")
    static void touchIsUsed(Due due) {
        Desk desk = new Desk();
        desk.fob.touch();
        due.is("MAKE", desk.send(Desk.MAKE, map()), 0);
        due.is("TOUCHED", desk.fob.count(4), 0);
        due.is("another", desk.send(Desk.MAKE, Desk.makeMap("h", "v")), 39);
        desk.fob.touch();
        due.is("a refused one", desk.send(Desk.MAKE, new MapOf()), 20);
        due.is("TOUCHED stays", desk.fob.count(4), 1);
    }

    @Says("a KEY of this HOUSE and USER is no more;")
    static void oldKeyIsNoMore(Due due) {
        Desk desk = Desk.with("h", "abc");
        desk.make("i", "a");
        due.is("MAKE again", desk.make("h", "a"), 0);
        due.is("KEYS", desk.fob.count(0), 4);
        due.is("their order", desk.users(), "b c a a");
        due.is("the one of the other HOUSE stays", desk.key(2, 2), Desk.id(4));
        due.is("the new one", desk.key(3, 2), Desk.id(5));
        desk.fob.touch();
        due.is("the old ID is not FOUND", desk.send(Desk.GET, Desk.getMap("h").list(3, Desk.id(1))), 46);
        due.is("a USER that begins alike is another", desk.make("h", "ab"), 0);
        due.is("KEYS", desk.fob.count(0), 5);
        due.is("the latest again", desk.make("h", "ab"), 0);
        due.is("their order", desk.users(), "b c a a ab");
    }

    @Says("a new one comes: d = 1 + (a FRESH row modulo (n - 1)), COUNTER 0.")
    static void newKeyComes(Due due) {
        Desk desk = Desk.with("h", "uv");
        desk.fob.advance(0, 7);
        due.is("TURN", desk.fob.count(8), 3);
        due.is("MAKE again", desk.make("h", "u"), 0);
        due.is("TURN", desk.fob.count(8), 4);
        due.is("ID of the d of TURN 3", desk.key(1, 2), Desk.id(3));
        due.is("d times G", desk.key(1, 4), PlainCurve.point(Desk.secret(3)));
        due.is("COUNTER", desk.key(1, 3), new byte[4]);
        due.is("COUNTER in DATA", desk.out(37, 4), new byte[4]);
        due.is("USER", desk.key(1, 1), Bytes.text("u"));
        due.is("HOUSE", desk.key(1, 0), Bytes.hash(Bytes.text("h")));
    }

    @Says("DATA: HOUSE, one byte 65 (with a PIN: 69), COUNTER as 4 bytes, ID, x and y of d times G.")
    static void data(Due due) {
        Desk desk = Desk.with("h", "u");
        due.is("DATA", desk.out(4, 117), Desk.madeData("h", 1, 65));
        desk.setPin(Desk.PIN_A);
        desk.fob.touch();
        due.is("MAKE with PROOF", desk.send(Desk.MAKE, map().row(8, Desk.proof(2))), 0);
        due.is("DATA with a PIN", desk.out(4, 117), Desk.madeData("h", 3, 69));
    }

    @Says("OUT: 1: DATA (a ROW); 2: the SIGNATURE of HASH(DATA, WORD) with d (a ROW).")
    static void out(Due due) {
        Desk desk = new Desk();
        due.is("MAKE", desk.make("house.example", "user"), 0);
        due.is("OUT", desk.out(), Desk.made("house.example", 1, 65));
        due.is("bytes of OUT", desk.fob.count(6), 188);
        due.holds("the library takes it for right", Desk.isSigned(Bytes.join(desk.out(4, 117), Desk.WORD),
                desk.key(0, 4), desk.out(124, 64)));
    }

    @Says("OUT: 1: DATA (a ROW); 2: the SIGNATURE of HASH(DATA, WORD) with d (a ROW).")
    static void outWithPin(Due due) {
        Desk desk = withPin();
        due.is("MAKE", desk.send(Desk.MAKE, map().row(8, Desk.proof(1))), 0);
        due.is("OUT", desk.out(), Desk.made("h", 2, 69));
    }
}
