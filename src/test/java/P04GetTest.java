import java.util.Arrays;

/** Terms 4: GET. */
public final class P04GetTest {
    private static final byte[] OTHER = Bytes.run(9, 16);

    public static void main(String[] args) {
        Sentences.run(P04GetTest.class);
    }

    private static MapOf map() {
        return Desk.getMap("h");
    }

    private static NameOf name(Due due, int name, int fine) {
        return new NameOf(due, Desk.GET, name, P04GetTest::map, fine);
    }

    /** A KEY of TURN 1, a PIN and the TOKEN of TURN 2, TOUCHED. */
    private static Desk withPin() {
        Desk desk = Desk.with("h", "u");
        desk.setPin(Desk.PIN_A);
        desk.fob.touch();
        return desk;
    }

    private static void userIs(Due due, Desk desk, String user, int more) {
        due.is("the USER of the first", desk.out(126, 2 + user.length()),
                Bytes.join(Bytes.of(4, 0x40 + user.length()), Bytes.text(user)));
        due.is("KEYS that WAIT", desk.fob.count(5), more);
    }

    @Says("GET (2): 1 t! 1 to 32 bytes;")
    static void text(Due due) {
        name(due, 1, 46).isOfKind('t').textHas(1, 32).mustBeThere();
    }

    @Says("2 r! 32 the WORD;")
    static void word(Due due) {
        name(due, 2, 46).isOfKind('r').rowHas(32, 32).mustBeThere();
        Desk desk = Desk.with("h", "u");
        desk.fob.touch();
        byte[] word = Bytes.run(77, 32);
        due.is("GET", desk.send(Desk.GET, map().row(2, word)), 0);
        due.is("the WORD is signed", desk.out(), Desk.asserted("h", "u", 1, 1, 1, word).bytes());
    }

    @Says("3 l of 16 each;")
    static void list(Due due) {
        name(due, 3, 46).isOfKind('l').rowsOfListHave(16).mayBeMissing(46);
    }

    @Says("5 y;")
    static void waiver(Due due) {
        name(due, 5, 46).isOfKind('y').mayBeMissing(46);
        due.is("yes", new Desk().send(Desk.GET, map().flag(5, true)), 46);
        due.is("no", new Desk().send(Desk.GET, map().flag(5, false)), 46);
    }

    @Says("6 r 16 PROOF.")
    static void proofIsARow(Due due) {
        name(due, 6, 51).isOfKind('r').rowHas(16, 16).mayBeMissing(46);
    }

    @Says("FOUND are the KEYS of the HOUSE HASH(1),")
    static void ofTheHouse(Due due) {
        Desk desk = Desk.with("h", "a");
        desk.make("i", "b");
        desk.make("h", "c");
        desk.make("hh", "d");
        due.is("two of a HOUSE", desk.get("h"), 0);
        userIs(due, desk, "c", 1);
        due.is("one of another", desk.get("i"), 0);
        userIs(due, desk, "b", 0);
        due.is("a HOUSE that begins alike", desk.get("hh"), 0);
        userIs(due, desk, "d", 0);
        due.is("a HOUSE without KEYS", desk.get("hhh"), 46);
        due.is("all ten", Desk.with("h", "abcdefghij").get("h"), 0);
    }

    @Says("if 3 is there those whose ID is in it,")
    static void listed(Due due) {
        Desk desk = Desk.with("h", "abc");
        desk.make("i", "d");
        desk.fob.touch();
        due.is("an empty LIST", desk.send(Desk.GET, map().list(3)), 46);
        due.is("IDS of none", desk.send(Desk.GET, map().list(3, OTHER, Bytes.turned(Desk.id(1), 0),
                Bytes.turned(Desk.id(3), 127))), 46);
        due.is("ID of another HOUSE", desk.send(Desk.GET, map().list(3, Desk.id(4))), 46);
        due.is("one", desk.send(Desk.GET, map().list(3, OTHER, Desk.id(2))), 0);
        userIs(due, desk, "b", 0);
        byte[][] fifteen = new byte[15][];
        Arrays.fill(fifteen, OTHER);
        fifteen[14] = Desk.id(1);
        desk.fob.touch();
        due.is("the last of fifteen", desk.send(Desk.GET, map().list(3, fifteen)), 0);
        userIs(due, desk, "a", 0);
        desk.fob.touch();
        due.is("all", desk.send(Desk.GET, map().list(3, Desk.id(1), Desk.id(2), Desk.id(3), Desk.id(4))), 0);
        userIs(due, desk, "c", 2);
        desk.fob.touch();
        due.is("one of them twice", desk.send(Desk.GET, map().list(3, Desk.id(1), Desk.id(1))), 0);
        userIs(due, desk, "a", 0);
    }

    @Says("the latest first.")
    static void latestFirst(Due due) {
        Desk desk = Desk.with("h", "abc");
        desk.make("h", "a");
        due.is("GET", desk.get("h"), 0);
        userIs(due, desk, "a", 2);
        desk.fob.send(Desk.NEXT);
        userIs(due, desk, "c", 1);
        desk.fob.send(Desk.NEXT);
        userIs(due, desk, "b", 0);
        desk.fob.touch();
        due.is("the order of the LIST does not matter", desk.send(Desk.GET, map().list(3, Desk.id(2), Desk.id(3))), 0);
        userIs(due, desk, "c", 1);
    }

    @Says("51: PROOF is there, and there is no PIN,")
    static void proofWithoutPin(Due due) {
        Desk desk = Desk.with("h", "u");
        desk.fob.touch();
        due.is("any PROOF", desk.send(Desk.GET, map().row(6, OTHER)), 51);
        due.is("that of the TOKEN", desk.send(Desk.GET, map().row(6, Desk.proof(0))), 51);
        due.is("nothing has changed", desk.counts(), "1 8 0 0 1 0 0 0 2 1");
        due.is("COUNTER stays", desk.key(0, 3), new byte[4]);
        due.is("without PROOF", desk.send(Desk.GET, map()), 0);
    }

    @Says("or it is another one than in MAKE.")
    static void wrongProof(Due due) {
        byte[] proof = Desk.proof(2);
        for (int from = 0; from < 128; from += 32) {
            Desk desk = withPin();
            for (int bit = from; bit < from + 32; bit++) {
                due.is("bit " + bit + " wrong", desk.send(Desk.GET, map().row(6, Bytes.turned(proof, bit))), 51);
            }
            due.is("nothing has changed", desk.counts(), "1 8 0 1 1 0 0 0 3 1");
            due.is("COUNTER stays", desk.key(0, 3), new byte[4]);
            due.is("right", desk.send(Desk.GET, map().row(6, proof)), 0);
        }
        Desk desk = withPin();
        due.is("of another WORD", desk.send(Desk.GET, map().row(2, Bytes.run(4, 32)).row(6, proof)), 51);
        desk.fob.power();
        desk.fob.touch();
        due.is("of the TOKEN before", desk.send(Desk.GET, map().row(6, proof)), 51);
        due.is("of the TOKEN of now", desk.send(Desk.GET, map().row(6, Desk.proof(3))), 0);
        due.is("with a PIN, PROOF may be missing", desk.get("h"), 0);
    }

    @Says("46: none are FOUND.")
    static void noneFound(Due due) {
        Desk desk = new Desk();
        due.is("without KEYS", desk.get("h"), 46);
        desk.make("i", "u");
        desk.fob.touch();
        String before = desk.counts();
        due.is("KEYS of another HOUSE alone", desk.send(Desk.GET, map()), 46);
        due.is("5 is no", desk.send(Desk.GET, map().flag(5, false)), 46);
        due.is("nothing has changed", desk.counts(), before.replace(" 188 ", " 0 "));
    }

    @Says("39: it is not TOUCHED, and 5 is not no.")
    static void notTouched(Due due) {
        Desk desk = Desk.with("h", "u");
        due.is("5 is not there", desk.send(Desk.GET, map()), 39);
        due.is("5 is yes", desk.send(Desk.GET, map().flag(5, true)), 39);
        due.is("nothing has changed", desk.counts(), "1 8 0 0 0 0 0 0 2 1");
        due.is("COUNTER stays", desk.key(0, 3), new byte[4]);
        due.is("5 is no", desk.send(Desk.GET, map().flag(5, false)), 0);
        desk.fob.touch();
        due.is("TOUCHED and 5 not there", desk.send(Desk.GET, map()), 0);
        desk.fob.touch();
        due.is("TOUCHED and 5 yes", desk.send(Desk.GET, map().flag(5, true)), 0);
    }

    @Says("127: the first one's COUNTER is 2^32 - 1.")
    static void counterEnds(Due due) {
        Desk desk = Desk.with("h", "ab");
        desk.fob.advance(1, -2);
        due.is("one before the last", desk.get("h"), 0);
        due.is("the last", desk.key(1, 3), Bytes.of(255, 255, 255, 255));
        desk.fob.touch();
        due.is("behind the last", desk.send(Desk.GET, map()), 127);
        due.is("nothing has changed, none WAIT", desk.counts(), "2 8 0 0 1 0 0 0 3 3");
        due.is("5 is no", desk.send(Desk.GET, map().flag(5, false)), 127);
        due.is("COUNTER stays", desk.key(1, 3), Bytes.of(255, 255, 255, 255));
        due.is("the other one's too", desk.key(0, 3), new byte[4]);
        due.is("the other one, by its ID", desk.send(Desk.GET, map().list(3, Desk.id(1))), 0);
        Desk first = Desk.with("h", "ab");
        first.fob.advance(0, -1);
        due.is("one that is not the first does not matter", first.get("h"), 0);
    }

    @Says("Else (unless 5 is no) it is not TOUCHED any more,")
    static void touchIsUsed(Due due) {
        Desk desk = Desk.with("h", "u");
        desk.fob.touch();
        due.is("5 is no", desk.send(Desk.GET, map().flag(5, false)), 0);
        due.is("TOUCHED stays", desk.fob.count(4), 1);
        due.is("5 is yes", desk.send(Desk.GET, map().flag(5, true)), 0);
        due.is("TOUCHED is used", desk.fob.count(4), 0);
        desk.fob.touch();
        due.is("5 is not there", desk.send(Desk.GET, map()), 0);
        due.is("TOUCHED is used", desk.fob.count(4), 0);
        due.is("another", desk.send(Desk.GET, map()), 39);
    }

    @Says("and the first one ASSERTS: its COUNTER is one more;")
    static void counterIsOneMore(Due due) {
        Desk desk = Desk.with("h", "ab");
        long[] before = {0, 1, 255, 256, 0xFFFF, 0xFFFFFF, 0x7FFFFFFFL, 0x80000000L, 0xFFFFFFFEL};
        for (long counter : before) {
            desk.fob.advance(1, (int) counter);
            due.is("GET", desk.get("h"), 0);
            due.is("COUNTER behind " + counter, desk.key(1, 3), Bytes.four(counter + 1));
            due.is("COUNTER in DATA", desk.out(55, 4), Bytes.four(counter + 1));
        }
        due.is("that of the other stays", desk.key(0, 3), new byte[4]);
        due.is("TURN stays", desk.fob.count(8), 3);
    }

    @Says("DATA: HOUSE, a byte: 1 unless 5 is no, and 4 more with PROOF;")
    static void flagByte(Due due) {
        byte[] proof = Desk.proof(2);
        MapOf[] maps = {map(), map().flag(5, true), map().flag(5, false), map().row(6, proof),
            map().flag(5, true).row(6, proof), map().flag(5, false).row(6, proof)};
        int[] bytes = {1, 1, 0, 5, 5, 4};
        for (int i = 0; i < maps.length; i++) {
            Desk desk = withPin();
            due.is("GET", desk.send(Desk.GET, maps[i]), 0);
            due.is("HOUSE and the byte", desk.out(22, 33),
                    Bytes.join(Bytes.hash(Bytes.text("h")), Bytes.of(bytes[i])));
            due.is("OUT", desk.out(), Desk.asserted("h", "u", 1, bytes[i], 1).bytes());
        }
    }

    @Says("COUNTER as 4 bytes.")
    static void counterInData(Due due) {
        Desk desk = Desk.with("h", "u");
        desk.fob.advance(0, 0x81020304);
        due.is("GET", desk.get("h"), 0);
        due.is("DATA has 37 bytes, COUNTER at its end", desk.out(), Desk.asserted("h", "u", 1, 1, 0x81020305L).bytes());
    }

    @Says("OUT: 1: ID; 2: DATA; 3: the SIGNATURE of HASH(DATA, WORD) with its d; 4: USER;")
    static void out(Due due) {
        String[] users = {"u", "sixteen bytes 16", "\0", "\0".repeat(16), "\u00FF".repeat(16)};
        for (String user : users) {
            Desk desk = new Desk();
            desk.make("house.example", user);
            due.is("GET", desk.get("house.example"), 0);
            byte[] out = desk.out();
            due.is("OUT", out, Desk.asserted("house.example", user, 1, 1, 1).bytes());
            due.holds("the library takes it for right", Desk.isSigned(
                    Bytes.join(Bytes.part(out, 22, 37), Desk.WORD), desk.key(0, 4), Bytes.part(out, 62, 64)));
        }
    }

    @Says("5: how many are FOUND (if more than one).")
    static void howManyAreFound(Due due) {
        String all = "abcdefghij";
        for (int n = 1; n <= 10; n++) {
            Desk desk = Desk.with("h", all.substring(0, n));
            due.is("GET", desk.get("h"), 0);
            MapOf want = Desk.asserted("h", all.substring(n - 1, n), n, 1, 1);
            due.is(n + " are FOUND", desk.out(), (n > 1 ? want.number(5, n) : want).bytes());
        }
        Desk desk = Desk.with("h", "abc");
        desk.fob.touch();
        due.is("GET of two", desk.send(Desk.GET, map().list(3, Desk.id(1), Desk.id(3))), 0);
        due.is("two are FOUND", desk.out(), Desk.asserted("h", "c", 3, 1, 1).number(5, 2).bytes());
    }

    @Says("The others WAIT, with WORD and byte.")
    static void othersWait(Due due) {
        Desk desk = Desk.with("h", "abc");
        due.is("GET", desk.get("h"), 0);
        due.is("KEYS that WAIT", desk.fob.count(5), 2);
        due.is("their COUNTERS stay", Bytes.join(desk.key(0, 3), desk.key(1, 3)), new byte[8]);
        due.is("NEXT", desk.fob.send(Desk.NEXT), 0);
        due.is("with the WORD of GET", desk.out(), Desk.asserted("h", "b", 2, 1, 1).bytes());

        byte[] word = Bytes.run(50, 32);
        Desk other = Desk.with("h", "abc");
        other.setPin(Desk.PIN_A);
        byte[] proof = Bytes.proof(Desk.fresh(4), word);
        due.is("GET", other.send(Desk.GET, map().row(2, word).flag(5, false).row(6, proof)), 0);
        due.is("NEXT", other.fob.send(Desk.NEXT), 0);
        due.is("with its WORD and byte", other.out(), Desk.asserted("h", "b", 2, 4, 1, word).bytes());
        due.is("NEXT", other.fob.send(Desk.NEXT), 0);
        due.is("with its WORD and byte", other.out(), Desk.asserted("h", "a", 1, 4, 1, word).bytes());
    }
}
