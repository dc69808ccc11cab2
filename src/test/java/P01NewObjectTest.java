/** Promise 1: a new object. */
public final class P01NewObjectTest {
    public static void main(String[] args) {
        Sentences.run(P01NewObjectTest.class);
    }

    @Says("`KeyFob()`: As at first;")
    static void asAtFirst(Due due) {
        Desk desk = new Desk();
        due.is("all that is counted", desk.counts(), "0 8 0 0 0 0 0 0 1 0");
        due.is("check()", desk.fob.check(), KeyFob.NONE);
        due.is("key(0, 0, 0)", desk.fob.key(0, 0, 0), KeyFob.NONE);
        due.is("NEXT", desk.fob.send(Desk.NEXT), 48);
        due.is("RESET", desk.fob.send(Desk.RESET), 39);
        due.is("MAKE", desk.make("h", "u"), 0);
        due.is("OUT", desk.out(), Desk.made("h", 1, 65));
    }

    /** Calls on one object, also its RESET, do not reach another. */
    @Says("`KeyFob()`: As at first;")
    static void objectsAreApart(Due due) {
        Desk desk = new Desk();
        Desk other = new Desk();
        desk.fob.touch();
        desk.fob.send(Desk.RESET);
        desk.make("h", "u");
        desk.setPin(Desk.PIN_A);
        desk.get("h");
        desk.fob.feed(1, 2, 3, 4, 5);
        desk.fob.touch();
        due.is("one made before", other.counts(), "0 8 0 0 0 0 0 0 1 0");
        due.is("MAKE", other.make("h", "u"), 0);
        due.is("OUT", other.out(), Desk.made("h", 1, 65));
        Desk later = new Desk();
        due.is("one made later", later.counts(), "0 8 0 0 0 0 0 0 1 0");
        due.is("MAKE", later.make("h", "u"), 0);
        due.is("OUT", later.out(), Desk.made("h", 1, 65));
    }

    /** What WAITS in one object keeps its WORD and byte while another is used. */
    @Says("`KeyFob()`: As at first;")
    static void objectsInTurn(Due due) {
        Desk desk = Desk.with("h", "ab");
        Desk other = Desk.with("i", "cd");
        byte[] word = Bytes.run(60, 32);
        due.is("GET", desk.get("h"), 0);
        due.is("GET of the other", other.send(Desk.GET, Desk.getMap("i").row(2, word).flag(5, false)), 0);
        due.is("NEXT", desk.fob.send(Desk.NEXT), 0);
        due.is("NEXT of the other", other.fob.send(Desk.NEXT), 0);
        due.is("OUT", desk.out(), Desk.asserted("h", "a", 1, 1, 1).bytes());
        due.is("OUT of the other", other.out(), Desk.asserted("i", "c", 1, 0, 1, word).bytes());
        due.is("check()", desk.fob.check(), 1);
        due.is("check() of the other", other.fob.check(), 1);
    }

    @Says("an empty tape, no")
    static void emptyTape(Due due) {
        Desk desk = new Desk();
        due.is("count(7)", desk.fob.count(7), 0);
        due.is("trim(1)", desk.fob.trim(1), KeyFob.OUTSIDE);
        due.is("trim(0)", desk.fob.trim(0), 0);
        due.is("PIN has no map", desk.fob.send(Desk.PIN), 18);
        due.is("the first feed", new Desk().fob.feed(0, 0, 0, 0, 0), 20);
    }

    @Says("an empty tape, no OUT.")
    static void noOut(Due due) {
        Desk desk = new Desk();
        due.is("count(6)", desk.fob.count(6), 0);
        due.is("out(0)", desk.fob.out(0), KeyFob.NONE);
        due.is("keep(0, 1)", desk.fob.keep(0, 1), KeyFob.OUTSIDE);
        due.is("keep(0, 0)", desk.fob.keep(0, 0), 0);
    }
}
