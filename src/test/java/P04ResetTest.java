/** Terms 4: RESET. */
public final class P04ResetTest {
    public static void main(String[] args) {
        Sentences.run(P04ResetTest.class);
    }

    /** All that a RESET forgets: KEYS of TURN 1 and 2, a PIN, a miss, KEYS that WAIT. */
    private static Desk used() {
        Desk desk = Desk.with("h", "ab");
        desk.setPin(Desk.PIN_A);
        desk.tryPin(Desk.PIN_B);
        desk.get("h");
        return desk;
    }

    private static void reset(Due due, Desk desk) {
        desk.fob.touch();
        due.is("RESET", desk.fob.send(Desk.RESET), 0);
    }

    @Says("RESET (7), without a map (likewise):")
    static void tapeIsNotLookedAt(Due due) {
        byte[][] tapes = {new byte[0], Bytes.of(0xFF, 1), new MapOf().number(1, 1).bytes(), new byte[400]};
        for (byte[] tape : tapes) {
            Desk desk = new Desk();
            due.is("39 with a tape of " + tape.length, desk.send(Desk.RESET, tape), 39);
            desk.fob.touch();
            due.is("0 with a tape of " + tape.length, desk.send(Desk.RESET, tape), 0);
            due.is("the tape", desk.fob.count(7), 0);
        }
    }

    @Says("39: it is not TOUCHED. Else MASTER")
    static void notTouched(Due due) {
        Desk desk = used();
        due.is("RESET", desk.fob.send(Desk.RESET), 39);
        due.is("nothing but what WAITS and OUT has changed", desk.counts(), "2 7 1 1 0 0 0 0 4 3");
        due.is("KEYS stay", desk.users(), "a b");
        due.is("check()", desk.fob.check(), 1);
        due.is("the TOKEN stays", desk.token(Desk.PIN_A), Desk.fresh(3));
        desk.fob.touch();
        desk.fob.power();
        due.is("RESET behind power", desk.fob.send(Desk.RESET), 39);
        desk.fob.touch();
        due.is("RESET", desk.fob.send(Desk.RESET), 0);
        due.is("another", desk.fob.send(Desk.RESET), 39);
    }

    @Says("Else MASTER is HASH(MASTER, one byte 1), TURN 0,")
    static void masterChanges(Due due) {
        Desk desk = used();
        byte[] master = Desk.MASTER;
        for (int i = 1; i <= 3; i++) {
            reset(due, desk);
            master = Bytes.hash(master, Bytes.of(1));
            due.is("TURN behind the TOKEN of TURN 0", desk.fob.count(8), 1);
            desk.setPin(Desk.PIN_B);
            due.is("TOKEN of TURN 1 and MASTER " + i, desk.token(Desk.PIN_B), Bytes.hash(master, Bytes.four(1)));
        }
        reset(due, desk);
        master = Bytes.hash(master, Bytes.of(1));
        desk.make("h", "a");
        byte[] d = PlainCurve.scalar(Bytes.hash(master, Bytes.four(1)));
        due.is("ID of TURN 1 and the MASTER", desk.key(0, 2), Bytes.part(Bytes.hash(d), 0, 16));
    }

    @Says("and all else as at first.")
    static void countsAreAsAtFirst(Due due) {
        Desk desk = used();
        reset(due, desk);
        due.is("all that is counted", desk.counts(), "0 8 0 0 0 0 0 0 1 0");
        due.is("check()", desk.fob.check(), KeyFob.NONE);
        due.is("forged(0)", desk.fob.forged(0), KeyFob.NONE);
        due.is("key(0, 0, 0)", desk.fob.key(0, 0, 0), KeyFob.NONE);
        due.is("advance(0, 0)", desk.fob.advance(0, 0), KeyFob.NONE);
        due.is("out(0)", desk.fob.out(0), KeyFob.NONE);
    }

    @Says("and all else as at first.")
    static void commandsAreAsAtFirst(Due due) {
        Desk desk = used();
        reset(due, desk);
        due.is("NEXT", desk.fob.send(Desk.NEXT), 48);
        due.is("the PIN of before is TRIED", desk.tryPin(Desk.PIN_A), 53);
        due.is("a KEY of before is not FOUND", desk.get("h"), 46);
        due.is("nor excluded", desk.send(Desk.MAKE, Desk.makeMap("h", "c").list(5, Desk.id(1))), 0);
        due.is("KEYS", desk.users(), "c");
        due.is("the byte of no PIN", desk.fob.out(36), 65);
        due.is("MAKE of a USER of before", desk.make("h", "a"), 0);
        due.is("KEYS", desk.users(), "c a");
        due.is("COUNTER", desk.key(1, 3), new byte[4]);
        due.is("SIGNATURES", desk.fob.count(9), 2);
        due.is("check()", desk.fob.check(), 1);
        due.is("a first PIN", desk.setPin(Desk.PIN_B), 0);
    }

    @Says("and all else as at first.")
    static void fullAndLockedIsAsAtFirst(Due due) {
        Desk desk = Desk.with("h", "abcdefghij");
        desk.setPin(Desk.PIN_A);
        for (int i = 0; i < 8; i++) {
            desk.fob.power();
            desk.tryPin(Desk.PIN_B);
        }
        due.is("TRIES", desk.fob.count(1), 0);
        reset(due, desk);
        due.is("all that is counted", desk.counts(), "0 8 0 0 0 0 0 0 1 0");
        for (char user : "klmnopqrst".toCharArray()) {
            due.is("MAKE", desk.make("h", String.valueOf(user)), 0);
        }
        due.is("an eleventh", desk.make("h", "a"), 40);
        due.is("a first PIN", desk.setPin(Desk.PIN_B), 0);
        due.is("it", desk.tryPin(Desk.PIN_B), 0);
    }
}
