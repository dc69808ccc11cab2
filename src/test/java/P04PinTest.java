/** Promise 4: PIN. */
public final class P04PinTest {
    private static final Due DUE = new Due();
    private static final byte[] A = Desk.PIN_A, B = Desk.PIN_B;

    public static void main(String[] args) {
        kinds();
        first();
        change();
        token();
        misses();
        tries();
        DUE.end();
    }

    private static void tries(Desk desk, int want) {
        DUE.is("PIN kind 1", desk.send(Desk.PIN, new MapOf().number(1, 1)), 0);
        DUE.is("OUT", desk.out(), Bytes.of(0xA1, 1, want));
        DUE.is("count(1)", desk.fob.count(1), want);
    }

    private static void kinds() {
        int[] none = {0, 5, 23, 24, 255, 256, 257, 260, 65535};
        for (int kind : none) {
            Desk desk = new Desk();
            DUE.is("kind " + kind, desk.send(Desk.PIN, new MapOf().number(1, kind).row(2, A).row(3, B)), 2);
            DUE.is("no PIN", desk.fob.count(3), 0);
        }
        Desk desk = new Desk();
        tries(desk, 8);
        DUE.is("kind 1 with more", desk.send(Desk.PIN, new MapOf().number(1, 1).row(2, A).row(3, B)), 0);
        DUE.is("no PIN", desk.fob.count(3), 0);
    }

    private static void first() {
        Desk desk = new Desk();
        DUE.is("kind 2 without NEW", desk.send(Desk.PIN, new MapOf().number(1, 2).row(2, A)), 20);
        DUE.is("kind 2", desk.setPin(A), 0);
        DUE.is("there is a PIN", desk.fob.count(3), 1);
        DUE.is("TOKEN is FRESH", desk.fob.count(8), 2);
        DUE.is("OUT has no bytes", desk.fob.count(6), 0);
        DUE.is("kind 2 again", desk.setPin(B), 51);
        DUE.is("kind 2 again without NEW", desk.send(Desk.PIN, new MapOf().number(1, 2)), 20);
        DUE.is("TURN stays", desk.fob.count(8), 2);
        DUE.is("the PIN stays", desk.tryPin(A), 0);
    }

    private static void change() {
        Desk desk = new Desk();
        DUE.is("kind 3 without a PIN", desk.changePin(A, B), 53);
        desk.setPin(A);
        DUE.is("kind 3 without OLD", desk.send(Desk.PIN, new MapOf().number(1, 3).row(3, B)), 20);
        DUE.is("kind 3 without NEW", desk.send(Desk.PIN, new MapOf().number(1, 3).row(2, A)), 20);
        DUE.is("TRIES stay", desk.fob.count(1), 8);
        DUE.is("kind 3 with a wrong OLD", desk.changePin(B, B), 49);
        DUE.is("TURN stays", desk.fob.count(8), 2);
        DUE.is("kind 3", desk.changePin(A, B), 0);
        DUE.is("TOKEN is FRESH", desk.fob.count(8), 3);
        DUE.is("OUT has no bytes", desk.fob.count(6), 0);
        DUE.is("TRIES are all", desk.fob.count(1), 8);
        DUE.is("MISSES are none", desk.fob.count(2), 0);
        DUE.is("the one before", desk.tryPin(A), 49);
        DUE.is("the new one", desk.tryPin(B), 0);
    }

    private static void token() {
        Desk desk = new Desk();
        byte[] master = Bytes.hash(Bytes.of(0));
        DUE.is("kind 4 without a PIN", desk.tryPin(A), 53);
        desk.setPin(A);
        DUE.is("kind 4 without OLD", desk.send(Desk.PIN, new MapOf().number(1, 4).row(3, A)), 20);
        DUE.is("kind 4", desk.tryPin(A), 0);
        DUE.is("OUT", desk.out(), new MapOf().row(2, Bytes.hash(master, Bytes.four(1))).bytes());
        DUE.is("TURN stays", desk.fob.count(8), 2);
        desk.changePin(A, B);
        DUE.is("TOKEN behind kind 3", desk.token(B), Bytes.hash(master, Bytes.four(2)));
        desk.fob.power();
        DUE.is("TOKEN behind power", desk.token(B), Bytes.hash(master, Bytes.four(3)));
        byte[] near = B.clone();
        near[15] ^= 1;
        DUE.is("a PIN with the last bit wrong", desk.tryPin(near), 49);
        DUE.is("OUT has no bytes", desk.fob.count(6), 0);
    }

    private static void misses() {
        Desk desk = new Desk();
        desk.setPin(A);
        DUE.is("a miss", desk.tryPin(B), 49);
        DUE.is("TRIES", desk.fob.count(1), 7);
        DUE.is("MISSES", desk.fob.count(2), 1);
        DUE.is("a second", desk.changePin(B, A), 49);
        DUE.is("a third", desk.tryPin(B), 52);
        DUE.is("MISSES", desk.fob.count(2), 3);
        tries(desk, 5);
        DUE.is("the right one", desk.tryPin(A), 52);
        DUE.is("the right one for kind 3", desk.changePin(A, B), 52);
        DUE.is("TRIES stay", desk.fob.count(1), 5);
        desk.fob.power();
        DUE.is("MISSES behind power", desk.fob.count(2), 0);
        DUE.is("TRIES behind power", desk.fob.count(1), 5);
        DUE.is("a miss", desk.tryPin(B), 49);
        DUE.is("the right one", desk.tryPin(A), 0);
        DUE.is("MISSES", desk.fob.count(2), 0);
        tries(desk, 8);
    }

    private static void tries() {
        Desk desk = new Desk();
        desk.setPin(A);
        int[] due = {49, 49, 52, 49, 49, 52, 49, 50};
        for (int i = 0; i < due.length; i++) {
            if (i % 3 == 0) {
                desk.fob.power();
            }
            DUE.is("miss " + i, desk.tryPin(B), due[i]);
        }
        tries(desk, 0);
        DUE.is("the right one", desk.tryPin(A), 50);
        desk.fob.power();
        DUE.is("the right one behind power", desk.changePin(A, B), 50);
        DUE.is("TRIES", desk.fob.count(1), 0);
        DUE.is("MISSES stay", desk.fob.count(2), 0);
        desk.fob.touch();
        DUE.is("RESET", desk.fob.send(Desk.RESET), 0);
        tries(desk, 8);

        Desk last = new Desk();
        last.setPin(A);
        for (int i = 0; i < 7; i++) {
            last.fob.power();
            last.tryPin(B);
        }
        tries(last, 1);
        last.fob.power();
        DUE.is("right with the last try", last.tryPin(A), 0);
        tries(last, 8);
        for (int i = 0; i < 6; i++) {
            if (i % 2 == 0) {
                last.fob.power();
            }
            last.tryPin(B);
        }
        last.tryPin(B);
        DUE.is("MISSES", last.fob.count(2), 3);
        last.fob.power();
        DUE.is("the eighth miss", last.tryPin(B), 50);
    }
}
