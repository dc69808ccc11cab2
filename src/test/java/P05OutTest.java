/** Promise 5: out tells the bytes of OUT. */
public final class P05OutTest {
    public static void main(String[] args) {
        Due due = new Due();
        Desk desk = new Desk();
        due.is("out(0)", desk.fob.out(0), KeyFob.NONE);
        due.is("out(-1)", desk.fob.out(-1), KeyFob.NONE);
        desk.send(Desk.PIN, new MapOf().number(1, 1));
        due.is("out(0)", desk.fob.out(0), 0xA1);
        due.is("out(1)", desk.fob.out(1), 1);
        due.is("out(2)", desk.fob.out(2), 8);
        due.is("out(3)", desk.fob.out(3), KeyFob.NONE);
        due.is("out(-1)", desk.fob.out(-1), KeyFob.NONE);
        due.is("out(MAX)", desk.fob.out(Integer.MAX_VALUE), KeyFob.NONE);
        due.is("out(MIN)", desk.fob.out(Integer.MIN_VALUE), KeyFob.NONE);
        desk.fob.feed(1, 2, 3, 4, 5);
        desk.fob.power();
        due.is("OUT stays behind other calls", desk.fob.out(2), 8);
        desk.fob.trim(0);
        desk.make("h", "u");
        due.is("out(187)", desk.fob.out(187) >= 0 ? 1 : 0, 1);
        due.is("out(188)", desk.fob.out(188), KeyFob.NONE);
        for (int i = 0; i < 188; i++) {
            due.holds("out(" + i + ") is a byte", desk.fob.out(i) >= 0 && desk.fob.out(i) < 256);
        }
        desk.fob.send(0);
        due.is("OUT of a refused command", desk.fob.out(0), KeyFob.NONE);
        due.end();
    }
}
