import java.util.Arrays;

/** Promise 4: the SIGNATURES are, byte for byte, those that TO SIGN tells. */
public final class P04SignTest {
    public static void main(String[] args) {
        Due due = new Due();
        Desk desk = new Desk();
        Model model = new Model();
        for (int i = 0; i < 12; i++) {
            byte[] word = Bytes.run(i, 32);
            byte[] make = new MapOf().row(1, word).text(2, "house" + i % 3).row(3, Bytes.run(i, 1 + i % 16)).bytes();
            both(due, desk, model, Desk.MAKE, make);
            byte[] get = new MapOf().text(1, "house" + i % 3).row(2, word).flag(5, i % 2 == 0).bytes();
            both(due, desk, model, Desk.GET, get);
            both(due, desk, model, Desk.NEXT, new byte[0]);
        }
        due.is("SIGNATURES", desk.fob.count(9), model.count(9));
        due.end();
    }

    private static void both(Due due, Desk desk, Model model, int command, byte[] map) {
        desk.fob.touch();
        model.touch();
        model.tape = Arrays.copyOf(map, map.length);
        due.is("send(" + command + ")", desk.send(command, map), model.send(command));
        due.is("OUT", desk.out(), model.out);
    }
}
