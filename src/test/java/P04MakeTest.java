/** Promise 4: MAKE. */
public final class P04MakeTest {
    private static final Due DUE = new Due();

    public static void main(String[] args) {
        answer();
        touchIsUsed();
        excluded();
        again();
        full();
        proof();
        order();
        DUE.end();
    }

    private static void answer() {
        Desk desk = new Desk();
        DUE.is("make", desk.make("house.example", "user"), 0);
        byte[] point = desk.key(0, 4);
        byte[] id = desk.key(0, 2);
        byte[] data = Bytes.join(Bytes.hash(Bytes.text("house.example")), Bytes.of(65), Bytes.four(0), id, point);
        byte[] out = desk.out();
        DUE.is("bytes of OUT", out.length, 188);
        DUE.is("OUT up to DATA", Bytes.part(out, 0, 4), Bytes.of(0xA2, 1, 0x58, 117));
        DUE.is("DATA", Bytes.part(out, 4, 117), data);
        DUE.is("OUT up to the SIGNATURE", Bytes.part(out, 121, 3), Bytes.of(2, 0x58, 64));
        DUE.holds("the SIGNATURE is one of DATA and WORD",
                Desk.isSigned(Bytes.join(data, Desk.WORD), point, Bytes.part(out, 124, 64)));
        DUE.is("TURN", desk.fob.count(8), 2);
        DUE.is("USER", desk.key(0, 1), Bytes.text("user"));
        DUE.is("COUNTER", desk.key(0, 3), Bytes.four(0));
    }

    private static void touchIsUsed() {
        Desk desk = new Desk();
        DUE.is("without a touch", desk.send(Desk.MAKE, Desk.makeMap("h", "u")), 39);
        DUE.is("no KEY", desk.fob.count(0), 0);
        DUE.is("TURN", desk.fob.count(8), 1);
        desk.fob.touch();
        DUE.is("with a touch", desk.send(Desk.MAKE, Desk.makeMap("h", "u")), 0);
        DUE.is("TOUCHED", desk.fob.count(4), 0);
        DUE.is("without another touch", desk.send(Desk.MAKE, Desk.makeMap("h", "v")), 39);
        desk.fob.touch();
        DUE.is("an empty map", desk.send(Desk.MAKE, new MapOf()), 20);
        DUE.is("a STATUS leaves the touch", desk.fob.count(4), 1);
    }

    private static void excluded() {
        Desk desk = new Desk();
        desk.make("h", "u");
        desk.make("other", "u");
        byte[] id = desk.key(0, 2);
        byte[] near = id.clone();
        near[15] ^= 1;
        desk.fob.touch();
        DUE.is("ID of this HOUSE", desk.send(Desk.MAKE, Desk.makeMap("h", "v").list(5, near, id)), 25);
        DUE.is("for the same USER too", desk.send(Desk.MAKE, Desk.makeMap("h", "u").list(5, id)), 25);
        DUE.is("TOUCHED stays", desk.fob.count(4), 1);
        DUE.is("KEYS stay", desk.fob.count(0), 2);
        DUE.is("an ID that is none", desk.send(Desk.MAKE, Desk.makeMap("h", "v").list(5, near)), 0);
        desk.fob.touch();
        DUE.is("ID of another HOUSE", desk.send(Desk.MAKE, Desk.makeMap("other", "v").list(5, id)), 0);
    }

    private static void again() {
        Desk desk = new Desk();
        desk.make("h", "a");
        desk.make("h", "b");
        desk.make("i", "a");
        byte[] first = desk.key(0, 2);
        byte[] second = desk.key(1, 2);
        byte[] third = desk.key(2, 2);
        desk.fob.advance(0, 7);
        DUE.is("make again", desk.make("h", "a"), 0);
        DUE.is("KEYS", desk.fob.count(0), 3);
        DUE.is("the second is first", desk.key(0, 2), second);
        DUE.is("the third is second", desk.key(1, 2), third);
        DUE.is("the new one is last", desk.key(2, 1), Bytes.text("a"));
        DUE.is("its HOUSE", desk.key(2, 0), Bytes.hash(Bytes.text("h")));
        DUE.is("its COUNTER", desk.key(2, 3), Bytes.four(0));
        DUE.holds("its ID is another", !Bytes.hex(desk.key(2, 2)).equals(Bytes.hex(first)));
        DUE.is("the old one is not FOUND", desk.send(Desk.GET, Desk.getMap("h").list(3, first)), 46);
        DUE.is("a USER that begins alike is another", desk.make("h", "ab"), 0);
        DUE.is("KEYS", desk.fob.count(0), 4);
        DUE.is("a shorter USER in a used place", desk.key(3, 1), Bytes.text("ab"));
    }

    private static void full() {
        Desk desk = new Desk();
        for (int i = 0; i < 10; i++) {
            DUE.is("make " + i, desk.make(i % 2 == 0 ? "even" : "odd", "user" + i), 0);
        }
        desk.fob.touch();
        DUE.is("an eleventh", desk.send(Desk.MAKE, Desk.makeMap("even", "user10")), 40);
        DUE.is("HOUSE and USER of two KEYS", desk.send(Desk.MAKE, Desk.makeMap("even", "user1")), 40);
        DUE.is("TOUCHED stays", desk.fob.count(4), 1);
        DUE.is("TURN stays", desk.fob.count(8), 11);
        DUE.is("one that is there", desk.send(Desk.MAKE, Desk.makeMap("even", "user4")), 0);
        DUE.is("KEYS", desk.fob.count(0), 10);
        DUE.is("it is the last", desk.key(9, 1), Bytes.text("user4"));
        DUE.is("the one behind it moved", desk.key(4, 1), Bytes.text("user5"));
        DUE.is("40 without a touch too", desk.send(Desk.MAKE, Desk.makeMap("odd", "user4")), 40);
        DUE.is("all of one HOUSE are FOUND", desk.get("even"), 0);
        DUE.is("four wait", desk.fob.count(5), 4);
    }

    private static void proof() {
        Desk desk = new Desk();
        byte[] wrong = Bytes.run(9, 16);
        desk.fob.touch();
        DUE.is("without a PIN, PROOF is not looked at", desk.send(Desk.MAKE, Desk.makeMap("h", "u").row(8, wrong)), 0);
        DUE.is("the byte", desk.fob.out(36), 65);
        desk.setPin(Desk.PIN_A);
        byte[] proof = Bytes.proof(desk.token(Desk.PIN_A), Desk.WORD);
        desk.fob.touch();
        DUE.is("no PROOF", desk.send(Desk.MAKE, Desk.makeMap("h", "u")), 54);
        DUE.is("wrong PROOF", desk.send(Desk.MAKE, Desk.makeMap("h", "u").row(8, wrong)), 51);
        for (int bit = 0; bit < 128; bit += 9) {
            byte[] near = proof.clone();
            near[bit / 8] ^= (byte) (128 >> bit % 8);
            DUE.is("PROOF with bit " + bit + " wrong", desk.send(Desk.MAKE, Desk.makeMap("h", "u").row(8, near)), 51);
        }
        DUE.is("right PROOF", desk.send(Desk.MAKE, Desk.makeMap("h", "u").row(8, proof)), 0);
        DUE.is("the byte", desk.fob.out(36), 69);
        byte[] data = Bytes.part(desk.out(), 4, 117);
        DUE.holds("it is signed with the byte", Desk.isSigned(Bytes.join(data, Desk.WORD), desk.key(0, 4),
                Bytes.part(desk.out(), 124, 64)));
        desk.fob.power();
        desk.fob.touch();
        DUE.is("PROOF of a TOKEN before", desk.send(Desk.MAKE, Desk.makeMap("h", "u").row(8, proof)), 51);
    }

    private static void order() {
        Desk desk = new Desk();
        desk.make("h", "u");
        byte[] id = desk.key(0, 2);
        desk.setPin(Desk.PIN_A);
        DUE.is("25 before 54", desk.send(Desk.MAKE, Desk.makeMap("h", "u").list(5, id)), 25);
        DUE.is("25 before 51", desk.send(Desk.MAKE, Desk.makeMap("h", "u").list(5, id).row(8, id)), 25);
        DUE.is("54 before 39", desk.send(Desk.MAKE, Desk.makeMap("h", "u")), 54);
        DUE.is("51 before 39", desk.send(Desk.MAKE, Desk.makeMap("h", "u").row(8, id)), 51);
        byte[] proof = Bytes.proof(desk.token(Desk.PIN_A), Desk.WORD);
        DUE.is("39 with all else", desk.send(Desk.MAKE, Desk.makeMap("h", "u").row(8, proof)), 39);
        for (int i = 1; i < 10; i++) {
            desk.fob.touch();
            DUE.is("make", desk.send(Desk.MAKE, Desk.makeMap("h", "u" + i).row(8, proof)), 0);
        }
        DUE.is("54 before 40", desk.send(Desk.MAKE, Desk.makeMap("h", "x")), 54);
        DUE.is("51 before 40", desk.send(Desk.MAKE, Desk.makeMap("h", "x").row(8, id)), 51);
        DUE.is("40 before 39", desk.send(Desk.MAKE, Desk.makeMap("h", "x").row(8, proof)), 40);
    }
}
