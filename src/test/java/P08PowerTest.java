/** Promise 8: power. */
public final class P08PowerTest {
    public static void main(String[] args) {
        Sentences.run(P08PowerTest.class);
    }

    @Says("The fob has no power, and has it again:")
    static void theRestStays(Due due) {
        Desk desk = Desk.with("h", "ab");
        desk.setPin(Desk.PIN_A);
        desk.tryPin(Desk.PIN_B);
        desk.get("h");
        desk.fob.feed(1, 2, 3, 4, 5);
        byte[] out = desk.out();
        due.is("before", desk.counts(), "2 7 1 1 0 1 131 20 4 3");
        due.is("power()", desk.fob.power(), 5);
        due.is("KEYS, TRIES, PIN, OUT, tape and SIGNATURES stay", desk.counts(), "2 7 0 1 0 0 131 20 5 3");
        due.is("OUT stays", desk.out(), out);
        due.is("COUNTER stays", desk.key(1, 3), Bytes.four(1));
        due.is("the latest SIGNATURE stays", desk.fob.check(), 1);
        desk.fob.trim(0);
        due.is("the PIN stays", desk.tryPin(Desk.PIN_A), 0);
    }

    @Says("MISSES are 0,")
    static void missesAreNone(Due due) {
        for (int misses = 0; misses <= 3; misses++) {
            Desk desk = new Desk();
            desk.setPin(Desk.PIN_A);
            for (int i = 0; i < misses; i++) {
                desk.tryPin(Desk.PIN_B);
            }
            due.is("MISSES", desk.fob.count(2), misses);
            desk.fob.power();
            due.is("MISSES", desk.fob.count(2), 0);
            due.is("TRIES stay", desk.fob.count(1), 8 - misses);
            due.is("the right one", desk.tryPin(Desk.PIN_A), 0);
        }
    }

    @Says("TOKEN is a FRESH row,")
    static void tokenIsFresh(Due due) {
        Desk desk = new Desk();
        desk.setPin(Desk.PIN_A);
        due.is("TOKEN", desk.token(Desk.PIN_A), Desk.fresh(1));
        desk.fob.power();
        due.is("TOKEN behind power", desk.token(Desk.PIN_A), Desk.fresh(2));
        desk.fob.power();
        desk.fob.power();
        due.is("TOKEN behind two more", desk.token(Desk.PIN_A), Desk.fresh(4));
        due.is("TURN", desk.fob.count(8), 5);
    }

    @Says("none WAIT, it")
    static void noneWait(Due due) {
        Desk desk = Desk.with("h", "abc");
        desk.get("h");
        due.is("KEYS that WAIT", desk.fob.count(5), 2);
        desk.fob.power();
        due.is("KEYS that WAIT", desk.fob.count(5), 0);
        due.is("NEXT", desk.fob.send(Desk.NEXT), 48);
    }

    @Says("it is not TOUCHED:")
    static void notTouched(Due due) {
        Desk desk = new Desk();
        desk.fob.touch();
        desk.fob.power();
        due.is("count(4)", desk.fob.count(4), 0);
        due.is("RESET", desk.fob.send(Desk.RESET), 39);
        desk.fob.power();
        due.is("power() of one that was not", desk.fob.count(4), 0);
    }

    @Says("it is not TOUCHED: TURN.")
    static void answersTurn(Due due) {
        Desk desk = new Desk();
        due.is("the first", desk.fob.power(), 2);
        due.is("the second", desk.fob.power(), 3);
        desk.make("h", "u");
        due.is("behind MAKE", desk.fob.power(), 5);
        desk.setPin(Desk.PIN_A);
        due.is("behind PIN", desk.fob.power(), 7);
        due.is("count(8)", desk.fob.count(8), 7);
        desk.fob.touch();
        desk.fob.send(Desk.RESET);
        due.is("behind RESET", desk.fob.power(), 2);
    }
}
