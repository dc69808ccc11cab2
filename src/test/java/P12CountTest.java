/** Promise 12: count. */
public final class P12CountTest {
    private static final Due DUE = new Due();

    private static void counts(String when, Desk desk, int... want) {
        for (int what = 0; what < want.length; what++) {
            DUE.is(when + ": count(" + what + ")", desk.fob.count(what), want[what]);
        }
    }

    public static void main(String[] args) {
        Desk desk = new Desk();
        int[] outside = {-1, 10, 11, Integer.MAX_VALUE, Integer.MIN_VALUE};
        for (int what : outside) {
            DUE.is("count(" + what + ")", desk.fob.count(what), KeyFob.OUTSIDE);
        }
        counts("at first", desk, 0, 8, 0, 0, 0, 0, 0, 0, 1, 0);
        desk.fob.touch();
        desk.fob.feed(1, 2, 3, 4, 5);
        counts("touched and fed", desk, 0, 8, 0, 0, 1, 0, 0, 20, 1, 0);
        desk.fob.trim(0);
        desk.make("h", "a");
        counts("one KEY", desk, 1, 8, 0, 0, 0, 0, 188, 0, 2, 1);
        desk.make("h", "b");
        desk.make("h", "c");
        desk.setPin(Desk.PIN_A);
        counts("three KEYS and a PIN", desk, 3, 8, 0, 1, 0, 0, 0, 0, 5, 3);
        desk.tryPin(Desk.PIN_B);
        desk.tryPin(Desk.PIN_B);
        counts("two MISSES", desk, 3, 6, 2, 1, 0, 0, 0, 0, 5, 3);
        desk.get("h");
        counts("two WAIT", desk, 3, 6, 2, 1, 0, 2, 131, 0, 5, 4);
        desk.fob.send(Desk.NEXT);
        counts("one WAITS", desk, 3, 6, 2, 1, 0, 1, 129, 0, 5, 5);
        desk.fob.keep(0, 10);
        counts("some are kept", desk, 3, 6, 2, 1, 0, 1, 129, 10, 5, 5);
        DUE.end();
    }
}
