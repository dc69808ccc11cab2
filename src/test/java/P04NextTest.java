/** Promise 4: NEXT, and what ends the waiting. */
public final class P04NextTest {
    private static final Due DUE = new Due();

    public static void main(String[] args) {
        answers();
        counterEnds();
        waitsNoMore();
        DUE.end();
    }

    private static Desk three() {
        Desk desk = new Desk();
        desk.make("h", "a");
        desk.make("h", "b");
        desk.make("h", "c");
        return desk;
    }

    private static void isNext(Desk desk, int k, int flags, long counter) {
        byte[] data = Bytes.join(desk.key(k, 0), Bytes.of(flags), Bytes.four(counter));
        byte[] signature = Bytes.part(desk.out(), 62, 64);
        DUE.is("OUT", desk.out(), new MapOf().row(1, desk.key(k, 2)).row(2, data).row(3, signature)
                .row(4, desk.key(k, 1)).bytes());
        DUE.holds("the SIGNATURE is one of DATA and the WORD of GET",
                Desk.isSigned(Bytes.join(data, Desk.WORD), desk.key(k, 4), signature));
    }

    private static void answers() {
        Desk desk = three();
        DUE.is("none WAIT", desk.fob.send(Desk.NEXT), 48);
        DUE.is("get", desk.get("h"), 0);
        DUE.is("two WAIT", desk.fob.count(5), 2);
        DUE.is("the tape is not looked at", desk.send(Desk.NEXT, Bytes.of(1, 2, 3)), 0);
        isNext(desk, 1, 1, 1);
        DUE.is("the tape is empty", desk.fob.count(7), 0);
        DUE.is("one WAITS", desk.fob.count(5), 1);
        desk.fob.touch();
        DUE.is("the last", desk.fob.send(Desk.NEXT), 0);
        isNext(desk, 0, 1, 1);
        DUE.is("TOUCHED is not used", desk.fob.count(4), 1);
        DUE.is("none WAIT", desk.fob.send(Desk.NEXT), 48);
        DUE.is("OUT has no bytes", desk.fob.count(6), 0);
        DUE.is("SIGNATURES", desk.fob.count(9), 6);

        desk.setPin(Desk.PIN_A);
        byte[] proof = Bytes.proof(desk.token(Desk.PIN_A), Desk.WORD);
        DUE.is("get with PROOF and 5 no", desk.send(Desk.GET, Desk.getMap("h").flag(5, false).row(6, proof)), 0);
        DUE.is("next", desk.fob.send(Desk.NEXT), 0);
        isNext(desk, 1, 4, 2);
    }

    private static void counterEnds() {
        Desk desk = three();
        desk.fob.advance(1, -1);
        DUE.is("get", desk.get("h"), 0);
        DUE.is("its COUNTER ends", desk.fob.send(Desk.NEXT), 127);
        DUE.is("it waits no more", desk.fob.count(5), 1);
        DUE.is("OUT has no bytes", desk.fob.count(6), 0);
        DUE.is("the other one", desk.fob.send(Desk.NEXT), 0);
        isNext(desk, 0, 1, 1);
        DUE.is("none WAIT", desk.fob.send(Desk.NEXT), 48);
        DUE.is("get", desk.get("h"), 0);
        desk.fob.advance(1, -1);
        desk.fob.advance(0, 77);
        DUE.is("advanced while it WAITED", desk.fob.send(Desk.NEXT), 127);
        DUE.is("next", desk.fob.send(Desk.NEXT), 0);
        isNext(desk, 0, 1, 78);
    }

    private static void waitsNoMore() {
        int[] commands = {1, 2, 6, 7, 0, 3, 9, -8};
        for (int command : commands) {
            Desk desk = three();
            desk.get("h");
            int status = desk.fob.send(command);
            DUE.holds("send(" + command + ") is refused", status != 0);
            DUE.is("none WAIT behind " + command, desk.fob.count(5), 0);
            DUE.is("next behind " + command, desk.fob.send(Desk.NEXT), 48);
        }
        Desk desk = three();
        desk.get("h");
        DUE.is("PIN kind 1", desk.send(Desk.PIN, new MapOf().number(1, 1)), 0);
        DUE.is("next behind it", desk.fob.send(Desk.NEXT), 48);
        desk.get("h");
        DUE.is("another GET without FOUND", desk.get("i"), 46);
        DUE.is("next behind it", desk.fob.send(Desk.NEXT), 48);
        desk.get("h");
        desk.get("h");
        DUE.is("another GET waits anew", desk.fob.count(5), 2);
        desk.fob.power();
        DUE.is("next behind power", desk.fob.send(Desk.NEXT), 48);
        desk.get("h");
        desk.fob.touch();
        desk.fob.feed(1, 2, 3, 4, 5);
        desk.fob.trim(0);
        desk.fob.keep(0, 5);
        desk.fob.advance(0, 1);
        desk.fob.check();
        desk.fob.forged(3);
        DUE.is("calls that are no commands leave them", desk.fob.count(5), 2);
    }
}
