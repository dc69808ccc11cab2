/** Promise 11: forged looks at the SIGNATURE with one bit as the other one. */
public final class P11ForgedTest {
    public static void main(String[] args) {
        Due due = new Due();
        Desk desk = new Desk();
        due.is("forged(0) at first", desk.fob.forged(0), KeyFob.NONE);
        due.is("forged(511) at first", desk.fob.forged(511), KeyFob.NONE);
        due.is("OUTSIDE before NONE", desk.fob.forged(512), KeyFob.OUTSIDE);
        desk.make("h", "a");
        int[] outside = {-1, 512, 1000, Integer.MAX_VALUE, Integer.MIN_VALUE};
        for (int bit : outside) {
            due.is("forged(" + bit + ")", desk.fob.forged(bit), KeyFob.OUTSIDE);
        }
        for (int bit = 0; bit < 512; bit += 5) {
            due.is("forged(" + bit + ")", desk.fob.forged(bit), 0);
        }
        due.is("forged(511)", desk.fob.forged(511), 0);
        due.is("it stays", desk.fob.check(), 1);
        due.is("OUT stays", desk.fob.count(6), 188);
        due.is("SIGNATURES stay", desk.fob.count(9), 1);
        desk.get("h");
        due.is("forged(300) of GET", desk.fob.forged(300), 0);
        due.is("check() of GET", desk.fob.check(), 1);
        desk.fob.touch();
        desk.fob.send(Desk.RESET);
        due.is("behind RESET", desk.fob.forged(3), KeyFob.NONE);
        due.end();
    }
}
