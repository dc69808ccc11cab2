/** Promise 4: RESET. */
public final class P04ResetTest {
    public static void main(String[] args) {
        Due due = new Due();
        Desk desk = new Desk();
        desk.make("h", "a");
        desk.make("h", "b");
        desk.setPin(Desk.PIN_A);
        desk.tryPin(Desk.PIN_B);
        desk.get("h");
        due.is("RESET without a touch", desk.fob.send(Desk.RESET), 39);
        due.is("KEYS stay", desk.fob.count(0), 2);
        due.is("none WAIT", desk.fob.count(5), 0);
        desk.get("h");
        desk.fob.touch();
        due.is("the tape is not looked at", desk.send(Desk.RESET, Bytes.of(0xFF, 1)), 0);
        int[] first = {0, 8, 0, 0, 0, 0, 0, 0, 1, 0};
        for (int what = 0; what < first.length; what++) {
            due.is("count(" + what + ")", desk.fob.count(what), first[what]);
        }
        due.is("check()", desk.fob.check(), KeyFob.NONE);
        due.is("forged(0)", desk.fob.forged(0), KeyFob.NONE);
        due.is("key(0, 0, 0)", desk.fob.key(0, 0, 0), KeyFob.NONE);
        due.is("NEXT", desk.fob.send(Desk.NEXT), 48);
        due.is("the KEYS are not FOUND", desk.get("h"), 46);
        due.is("no PIN", desk.tryPin(Desk.PIN_A), 53);

        byte[] master = Bytes.hash(Bytes.hash(Bytes.of(0)), Bytes.of(1));
        due.is("make", desk.make("h", "a"), 0);
        due.is("SIGNATURES", desk.fob.count(9), 1);
        due.is("check()", desk.fob.check(), 1);
        due.is("ID of the new MASTER", desk.key(0, 2),
                Bytes.part(Bytes.hash(Model.scalar(Bytes.hash(master, Bytes.four(1)))), 0, 16));
        desk.setPin(Desk.PIN_B);
        due.is("TOKEN of the new MASTER", desk.token(Desk.PIN_B), Bytes.hash(master, Bytes.four(2)));
        desk.fob.touch();
        desk.fob.send(Desk.RESET);
        desk.setPin(Desk.PIN_B);
        due.is("TOKEN of the third MASTER", desk.token(Desk.PIN_B),
                Bytes.hash(Bytes.hash(master, Bytes.of(1)), Bytes.four(1)));
        due.end();
    }
}
