/** Promise 10: check. */
public final class P10CheckTest {
    public static void main(String[] args) {
        Sentences.run(P10CheckTest.class);
    }

    @Says("Whether the SIGNATURE that was made latest is right for HASH(DATA, WORD) of then and the KEY of then:")
    static void latestOfAll(Due due) {
        Desk desk = Desk.with("h", "a");
        due.is("of MAKE", desk.fob.check(), 1);
        due.is("again", desk.fob.check(), 1);
        desk.make("h", "b");
        due.is("of another KEY", desk.fob.check(), 1);
        desk.get("h");
        due.is("of GET", desk.fob.check(), 1);
        desk.fob.send(Desk.NEXT);
        due.is("of NEXT, by another KEY", desk.fob.check(), 1);
        desk.get("h");
        due.is("of GET, by the KEY before", desk.fob.check(), 1);
        due.is("SIGNATURES stay", desk.fob.count(9), 5);
    }

    @Says("Whether the SIGNATURE that was made latest is right for HASH(DATA, WORD) of then and the KEY of then:")
    static void ofThen(Due due) {
        Desk desk = Desk.with("h", "ab");
        desk.get("h");
        desk.fob.advance(1, 1000);
        due.is("the COUNTER of now does not matter", desk.fob.check(), 1);
        byte[] word = new byte[32];
        due.is("a refused MAKE with another WORD", desk.send(Desk.MAKE, Desk.makeMap("i", "x").row(1, word)), 39);
        due.is("it does not matter", desk.fob.check(), 1);
        due.is("a refused GET with another WORD", desk.send(Desk.GET, Desk.getMap("h").row(2, word)), 39);
        due.is("it does not matter", desk.fob.check(), 1);
        due.is("no map", desk.fob.send(Desk.MAKE), 18);
        due.is("it does not matter", desk.fob.check(), 1);
        desk.setPin(Desk.PIN_A);
        due.is("a PIN does not matter", desk.fob.check(), 1);
        desk.fob.power();
        due.is("power does not matter", desk.fob.check(), 1);
        due.is("a touch, and RESET without one", desk.fob.send(Desk.RESET), 39);
        due.is("it does not matter", desk.fob.check(), 1);
    }

    @Says("with r, s of 1 .. n - 1, w = 1 / s, the x of h * w times G and r * w times (x, y) together is r modulo "
            + "n: 1, 0.")
    static void asTheLibraryChecks(Due due) {
        Desk desk = Desk.with("h", "ab");
        desk.get("h");
        byte[] signature = desk.out(62, 64);
        byte[] message = Bytes.join(desk.out(22, 37), Desk.WORD);
        byte[] point = desk.key(1, 4);
        due.is("check()", desk.fob.check(), 1);
        due.holds("the document's rule", PlainCurve.isRight(signature, Bytes.hash(message), point));
        due.holds("the library", Desk.isSigned(message, point, signature));
        due.is("forged(255)", desk.fob.forged(255), 0);
        due.holds("the document's rule", !PlainCurve.isRight(Bytes.turned(signature, 255), Bytes.hash(message), point));
    }

    /** The WORD was found by trying some 2^26 of them: bit 25 is the only one of the highest 32 of r that is 0. */
    @Says("with r, s of 1 .. n - 1, w = 1 / s, the x of h * w times G and r * w times (x, y) together is r modulo "
            + "n: 1, 0.")
    static void numbersFromNOn(Due due) {
        Desk desk = Desk.with("h", "u");
        desk.fob.touch();
        due.is("GET", desk.send(Desk.GET, Desk.getMap("h").row(2, Bytes.wide(38303833))), 0);
        byte[] signature = desk.out(62, 64);
        due.is("check()", desk.fob.check(), 1);
        due.holds("r with bit 25 turned is not below n",
                PlainCurve.number(Bytes.part(Bytes.turned(signature, 25), 0, 32)).compareTo(PlainCurve.N) >= 0);
        due.is("forged(25)", desk.fob.forged(25), 0);
        due.is("check()", desk.fob.check(), 1);
    }

    @Says("NONE: none was made since the beginning (or RESET).")
    static void none(Due due) {
        Desk desk = new Desk();
        due.is("at first", desk.fob.check(), KeyFob.NONE);
        desk.send(Desk.MAKE, Desk.makeMap("h", "u"));
        due.is("behind a refused MAKE", desk.fob.check(), KeyFob.NONE);
        desk.send(Desk.GET, Desk.getMap("h"));
        due.is("behind a refused GET", desk.fob.check(), KeyFob.NONE);
        desk.make("h", "u");
        due.is("behind MAKE", desk.fob.check(), 1);
        desk.fob.touch();
        desk.fob.send(Desk.RESET);
        due.is("behind RESET", desk.fob.check(), KeyFob.NONE);
        desk.make("h", "u");
        due.is("behind another MAKE", desk.fob.check(), 1);
    }
}
