/** Promise 10: check looks at the latest SIGNATURE with the KEY of then. */
public final class P10CheckTest {
    public static void main(String[] args) {
        Due due = new Due();
        Desk desk = new Desk();
        due.is("check() at first", desk.fob.check(), KeyFob.NONE);
        desk.make("h", "a");
        due.is("check()", desk.fob.check(), 1);
        due.is("check() again", desk.fob.check(), 1);
        desk.make("h", "b");
        due.is("of another KEY", desk.fob.check(), 1);
        desk.get("h");
        due.is("of GET", desk.fob.check(), 1);
        desk.fob.send(Desk.NEXT);
        due.is("of NEXT", desk.fob.check(), 1);
        desk.fob.advance(0, 1000);
        due.is("the COUNTER of now does not matter", desk.fob.check(), 1);
        due.is("a refused command does not matter", desk.fob.send(Desk.MAKE), 18);
        due.is("check()", desk.fob.check(), 1);
        desk.fob.power();
        due.is("behind power", desk.fob.check(), 1);
        desk.fob.touch();
        desk.send(Desk.GET, Desk.getMap("h").list(3, desk.key(0, 2)));
        byte[] signature = Bytes.part(desk.out(), 62, 64);
        byte[] message = Bytes.join(Bytes.part(desk.out(), 22, 37), Desk.WORD);
        due.holds("the library takes it for right too", Desk.isSigned(message, desk.key(0, 4), signature));
        due.holds("and not for another KEY", !Desk.isSigned(message, desk.key(1, 4), signature));
        due.is("check() changes nothing", desk.fob.count(9), 5);
        desk.fob.touch();
        desk.fob.send(Desk.RESET);
        due.is("behind RESET", desk.fob.check(), KeyFob.NONE);
        desk.make("h", "a");
        due.is("of the next one", desk.fob.check(), 1);
        due.end();
    }
}
