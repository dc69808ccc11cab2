/** Promise 4: send; what each command does is told by the other tests of promise 4. */
public final class P04SendTest {
    public static void main(String[] args) {
        Sentences.run(P04SendTest.class);
    }

    @Says("A command: its STATUS.")
    static void eachCommand(Due due) {
        Desk desk = new Desk();
        due.is("PIN", desk.send(6, new MapOf().number(1, 1)), 0);
        due.is("RESET", desk.fob.send(7), 39);
        due.is("NEXT", desk.fob.send(8), 48);
        due.is("MAKE", desk.send(1, Desk.makeMap("h", "u")), 39);
        due.is("GET", desk.send(2, Desk.getMap("h")), 46);
        due.is("no command", desk.fob.send(5), 1);
        desk.fob.touch();
        due.is("MAKE", desk.send(1, Desk.makeMap("h", "u")), 0);
        desk.make("h", "v");
        desk.fob.touch();
        due.is("GET", desk.send(2, Desk.getMap("h")), 0);
        due.is("NEXT", desk.fob.send(8), 0);
        desk.fob.touch();
        due.is("RESET", desk.fob.send(7), 0);
    }
}
