/** Promise 4: GET. */
public final class P04GetTest {
    private static final Due DUE = new Due();

    public static void main(String[] args) {
        answer();
        found();
        listed();
        touchAndWaiver();
        proof();
        counterEnds();
        order();
        DUE.end();
    }

    private static void isAssertion(Desk desk, int k, int flags, long counter, int found) {
        byte[] data = Bytes.join(desk.key(k, 0), Bytes.of(flags), Bytes.four(counter));
        byte[] out = desk.out();
        byte[] signature = Bytes.part(out, 62, 64);
        MapOf want = new MapOf().row(1, desk.key(k, 2)).row(2, data).row(3, signature).row(4, desk.key(k, 1));
        DUE.is("OUT", out, (found > 1 ? want.number(5, found) : want).bytes());
        DUE.holds("the SIGNATURE is one of DATA and WORD",
                Desk.isSigned(Bytes.join(data, Desk.WORD), desk.key(k, 4), signature));
        DUE.is("COUNTER", desk.key(k, 3), Bytes.four(counter));
        DUE.is("check()", desk.fob.check(), 1);
    }

    private static void answer() {
        Desk desk = new Desk();
        desk.make("house.example", "u");
        DUE.is("get", desk.get("house.example"), 0);
        isAssertion(desk, 0, 1, 1, 1);
        DUE.is("none WAIT", desk.fob.count(5), 0);
        DUE.is("get", desk.get("house.example"), 0);
        isAssertion(desk, 0, 1, 2, 1);
        DUE.is("TURN is not used", desk.fob.count(8), 2);
        desk.fob.advance(0, 0x01FFFFFF);
        desk.get("house.example");
        isAssertion(desk, 0, 1, 0x02000000, 1);
        desk.fob.advance(0, 0x7FFFFFFF);
        desk.get("house.example");
        isAssertion(desk, 0, 1, 0x80000000L, 1);
        desk.make("h", "sixteen bytes 16");
        desk.get("h");
        isAssertion(desk, 1, 1, 1, 1);
    }

    private static void found() {
        Desk desk = new Desk();
        desk.make("h", "a");
        desk.make("i", "b");
        desk.make("h", "c");
        desk.make("h", "d");
        DUE.is("no such HOUSE", desk.get("hh"), 46);
        DUE.is("the other HOUSE", desk.get("i"), 0);
        isAssertion(desk, 1, 1, 1, 1);
        DUE.is("three of a HOUSE", desk.get("h"), 0);
        isAssertion(desk, 3, 1, 1, 3);
        DUE.is("two WAIT", desk.fob.count(5), 2);
        DUE.is("they do not ASSERT yet", desk.key(2, 3), Bytes.four(0));
    }

    private static void listed() {
        Desk desk = new Desk();
        desk.make("h", "a");
        desk.make("h", "b");
        desk.make("h", "c");
        desk.make("i", "d");
        byte[] none = Bytes.run(1, 16);
        byte[] near = desk.key(0, 2);
        near[0] ^= 1;
        desk.fob.touch();
        DUE.is("an empty LIST", desk.send(Desk.GET, Desk.getMap("h").list(3)), 46);
        DUE.is("no such ID", desk.send(Desk.GET, Desk.getMap("h").list(3, none, near)), 46);
        DUE.is("ID of another HOUSE", desk.send(Desk.GET, Desk.getMap("h").list(3, desk.key(3, 2))), 46);
        DUE.is("one", desk.send(Desk.GET, Desk.getMap("h").list(3, none, desk.key(1, 2))), 0);
        isAssertion(desk, 1, 1, 1, 1);
        desk.fob.touch();
        byte[][] two = {desk.key(0, 2), desk.key(2, 2), desk.key(0, 2)};
        DUE.is("two, one of them twice", desk.send(Desk.GET, Desk.getMap("h").list(3, two)), 0);
        isAssertion(desk, 2, 1, 1, 2);
        DUE.is("one WAITS", desk.fob.count(5), 1);
        desk.fob.touch();
        byte[][] many = new byte[15][];
        for (int i = 0; i < 15; i++) {
            many[i] = i == 14 ? desk.key(0, 2) : none;
        }
        DUE.is("the last of fifteen", desk.send(Desk.GET, Desk.getMap("h").list(3, many)), 0);
        isAssertion(desk, 0, 1, 1, 1);
    }

    private static void touchAndWaiver() {
        Desk desk = new Desk();
        desk.make("h", "a");
        DUE.is("no touch", desk.send(Desk.GET, Desk.getMap("h")), 39);
        DUE.is("no touch, 5 is yes", desk.send(Desk.GET, Desk.getMap("h").flag(5, true)), 39);
        DUE.is("COUNTER stays", desk.key(0, 3), Bytes.four(0));
        DUE.is("5 is no", desk.send(Desk.GET, Desk.getMap("h").flag(5, false)), 0);
        isAssertion(desk, 0, 0, 1, 1);
        desk.fob.touch();
        DUE.is("5 is no, TOUCHED", desk.send(Desk.GET, Desk.getMap("h").flag(5, false)), 0);
        isAssertion(desk, 0, 0, 2, 1);
        DUE.is("TOUCHED stays", desk.fob.count(4), 1);
        DUE.is("5 is yes", desk.send(Desk.GET, Desk.getMap("h").flag(5, true)), 0);
        isAssertion(desk, 0, 1, 3, 1);
        DUE.is("TOUCHED is used", desk.fob.count(4), 0);
    }

    private static void proof() {
        Desk desk = new Desk();
        desk.make("h", "a");
        byte[] wrong = Bytes.run(9, 16);
        desk.fob.touch();
        DUE.is("PROOF without a PIN", desk.send(Desk.GET, Desk.getMap("h").row(6, wrong)), 51);
        desk.setPin(Desk.PIN_A);
        byte[] proof = Bytes.proof(desk.token(Desk.PIN_A), Desk.WORD);
        DUE.is("wrong PROOF", desk.send(Desk.GET, Desk.getMap("h").row(6, wrong)), 51);
        DUE.is("TOUCHED stays", desk.fob.count(4), 1);
        DUE.is("right PROOF", desk.send(Desk.GET, Desk.getMap("h").row(6, proof)), 0);
        isAssertion(desk, 0, 5, 1, 1);
        DUE.is("without a touch and PROOF", desk.send(Desk.GET, Desk.getMap("h").flag(5, false).row(6, proof)), 0);
        isAssertion(desk, 0, 4, 2, 1);
        DUE.is("no PROOF with a PIN", desk.get("h"), 0);
        isAssertion(desk, 0, 1, 3, 1);
        DUE.is("PROOF of another WORD", desk.send(Desk.GET,
                new MapOf().text(1, "h").row(2, Bytes.run(4, 32)).flag(5, false).row(6, proof)), 51);
    }

    private static void counterEnds() {
        Desk desk = new Desk();
        desk.make("h", "a");
        desk.make("h", "b");
        desk.fob.advance(1, -2);
        DUE.is("to the last", desk.get("h"), 0);
        isAssertion(desk, 1, 1, 0xFFFFFFFFL, 2);
        desk.fob.touch();
        DUE.is("beyond the last", desk.send(Desk.GET, Desk.getMap("h")), 127);
        DUE.is("TOUCHED stays", desk.fob.count(4), 1);
        DUE.is("none WAIT", desk.fob.count(5), 0);
        DUE.is("COUNTER stays", desk.key(1, 3), Bytes.four(-1));
        DUE.is("OUT has no bytes", desk.fob.count(6), 0);
        DUE.is("the other one can", desk.send(Desk.GET, Desk.getMap("h").list(3, desk.key(0, 2))), 0);
    }

    private static void order() {
        Desk desk = new Desk();
        byte[] wrong = Bytes.run(9, 16);
        DUE.is("51 before 46", desk.send(Desk.GET, Desk.getMap("h").row(6, wrong)), 51);
        DUE.is("46 before 39", desk.send(Desk.GET, Desk.getMap("h")), 46);
        desk.make("h", "a");
        desk.fob.advance(0, -1);
        DUE.is("51 before 39", desk.send(Desk.GET, Desk.getMap("h").row(6, wrong)), 51);
        DUE.is("39 before 127", desk.send(Desk.GET, Desk.getMap("h")), 39);
        DUE.is("127", desk.send(Desk.GET, Desk.getMap("h").flag(5, false)), 127);
    }
}
