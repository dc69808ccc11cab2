/** Promise 7: touch. */
public final class P07TouchTest {
    public static void main(String[] args) {
        Sentences.run(P07TouchTest.class);
    }

    @Says("It is TOUCHED: 1;")
    static void touched(Due due) {
        Desk desk = new Desk();
        due.is("touch()", desk.fob.touch(), 1);
        due.is("count(4)", desk.fob.count(4), 1);
        due.is("MAKE", desk.send(Desk.MAKE, Desk.makeMap("h", "u")), 0);
        due.is("touch() behind MAKE", desk.fob.touch(), 1);
        due.is("GET", desk.send(Desk.GET, Desk.getMap("h")), 0);
        due.is("touch() behind GET", desk.fob.touch(), 1);
        desk.fob.power();
        due.is("touch() behind power", desk.fob.touch(), 1);
        due.is("RESET", desk.fob.send(Desk.RESET), 0);
        due.is("touch() behind RESET", desk.fob.touch(), 1);
    }

    @Says("0 if it was.")
    static void wasTouched(Due due) {
        Desk desk = new Desk();
        due.is("touch()", desk.fob.touch(), 1);
        due.is("touch() again", desk.fob.touch(), 0);
        due.is("it stays TOUCHED", desk.fob.count(4), 1);
        due.is("touch() again", desk.fob.touch(), 0);
        due.is("a refused command", desk.fob.send(Desk.MAKE), 18);
        due.is("touch() behind it", desk.fob.touch(), 0);
        due.is("MAKE", desk.send(Desk.MAKE, Desk.makeMap("h", "u")), 0);
        due.is("three touches are used as one", desk.send(Desk.MAKE, Desk.makeMap("h", "u")), 39);
        desk.fob.touch();
        due.is("GET with 5 no", desk.send(Desk.GET, Desk.getMap("h").flag(5, false)), 0);
        due.is("touch() behind it", desk.fob.touch(), 0);
    }
}
