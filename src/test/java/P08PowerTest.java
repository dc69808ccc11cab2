/** Promise 8: power. */
public final class P08PowerTest {
    public static void main(String[] args) {
        Due due = new Due();
        Desk desk = new Desk();
        due.is("power()", desk.fob.power(), 2);
        due.is("power()", desk.fob.power(), 3);
        due.is("count(8)", desk.fob.count(8), 3);
        desk.make("h", "a");
        desk.make("h", "b");
        desk.setPin(Desk.PIN_A);
        byte[] before = desk.token(Desk.PIN_A);
        desk.tryPin(Desk.PIN_B);
        desk.tryPin(Desk.PIN_B);
        desk.get("h");
        byte[] out = desk.out();
        desk.fob.touch();
        desk.fob.feed(1, 2, 3, 4, 5);
        due.is("power()", desk.fob.power(), 7);
        due.is("MISSES", desk.fob.count(2), 0);
        due.is("TRIES stay", desk.fob.count(1), 6);
        due.is("none WAIT", desk.fob.count(5), 0);
        due.is("not TOUCHED", desk.fob.count(4), 0);
        due.is("KEYS stay", desk.fob.count(0), 2);
        due.is("the PIN stays", desk.fob.count(3), 1);
        due.is("SIGNATURES stay", desk.fob.count(9), 3);
        due.is("the tape stays", desk.fob.count(7), 20);
        due.is("OUT stays", desk.out(), out);
        due.is("check()", desk.fob.check(), 1);
        desk.fob.trim(0);
        byte[] token = desk.token(Desk.PIN_A);
        due.is("TOKEN", token, Bytes.hash(Bytes.hash(Bytes.of(0)), Bytes.four(6)));
        due.holds("TOKEN is another", !java.util.Arrays.equals(token, before));
        due.end();
    }
}
