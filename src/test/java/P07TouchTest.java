/** Promise 7: touch. */
public final class P07TouchTest {
    public static void main(String[] args) {
        Due due = new Due();
        Desk desk = new Desk();
        due.is("touch()", desk.fob.touch(), 1);
        due.is("count(4)", desk.fob.count(4), 1);
        due.is("touch() again", desk.fob.touch(), 0);
        due.is("count(4)", desk.fob.count(4), 1);
        due.is("make", desk.send(Desk.MAKE, Desk.makeMap("h", "u")), 0);
        due.is("it was used", desk.fob.count(4), 0);
        due.is("touch()", desk.fob.touch(), 1);
        desk.fob.power();
        due.is("touch() behind power", desk.fob.touch(), 1);
        due.is("get", desk.send(Desk.GET, Desk.getMap("h")), 0);
        due.is("touch() behind GET", desk.fob.touch(), 1);
        due.is("RESET", desk.fob.send(Desk.RESET), 0);
        due.is("touch() behind RESET", desk.fob.touch(), 1);
        due.end();
    }
}
