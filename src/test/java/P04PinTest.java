/** Terms 4: PIN. */
public final class P04PinTest {
    private static final byte[] A = Desk.PIN_A, B = Desk.PIN_B;

    public static void main(String[] args) {
        Sentences.run(P04PinTest.class);
    }

    private static MapOf kind(int kind) {
        return new MapOf().number(1, kind);
    }

    private static MapOf first() {
        return kind(1);
    }

    private static NameOf name(Due due, int name) {
        return new NameOf(due, Desk.PIN, name, P04PinTest::first, 0);
    }

    /** The PIN is A, the TOKEN the FRESH row of TURN 1. */
    private static Desk withPin() {
        Desk desk = new Desk();
        desk.setPin(A);
        return desk;
    }

    /** A fob that has had so many misses, with power between so that none are 3. */
    private static Desk missed(int misses) {
        Desk desk = withPin();
        for (int i = 0; i < misses; i++) {
            desk.fob.power();
            desk.tryPin(B);
        }
        desk.fob.power();
        return desk;
    }

    private static void triesAndMisses(Due due, Desk desk, int tries, int misses) {
        due.is("TRIES", desk.fob.count(1), tries);
        due.is("MISSES", desk.fob.count(2), misses);
    }

    @Says("PIN (6): 1 n! the kind;")
    static void kindIsANumber(Due due) {
        name(due, 1).isOfKind('n').mustBeThere();
    }

    @Says("2 r 16 the OLD;")
    static void oldIsARow(Due due) {
        name(due, 2).isOfKind('r').rowHas(16, 16).mayBeMissing(0);
        due.is("it is TRIED", withPin().send(Desk.PIN, kind(4).row(2, A).row(3, B)), 0);
        due.is("not the NEW", withPin().send(Desk.PIN, kind(4).row(2, B).row(3, A)), 49);
    }

    @Says("3 r 16 the NEW.")
    static void newIsARow(Due due) {
        name(due, 3).isOfKind('r').rowHas(16, 16).mayBeMissing(0);
        Desk desk = new Desk();
        due.is("kind 2 with both", desk.send(Desk.PIN, kind(2).row(2, A).row(3, B)), 0);
        due.is("the PIN is the NEW", desk.tryPin(B), 0);
    }

    @Says("2: a kind that is not 1 .. 4.")
    static void wrongKind(Due due) {
        int[] none = {0, 5, 6, 23, 24, 255, 256, 257, 258, 259, 260, 512, 1025, 65535};
        for (int kind : none) {
            Desk desk = new Desk();
            due.is("kind " + kind, desk.send(Desk.PIN, kind(kind).row(2, A).row(3, B)), 2);
            due.is("nothing has changed", desk.counts(), "0 8 0 0 0 0 0 0 1 0");
        }
        int[] statuses = {0, 0, 53, 53};
        for (int kind = 1; kind <= 4; kind++) {
            due.is("kind " + kind, new Desk().send(Desk.PIN, kind(kind).row(2, A).row(3, B)), statuses[kind - 1]);
        }
    }

    @Says("Kind 1: OUT: 1: TRIES.")
    static void kindOne(Due due) {
        for (int tries = 8; tries >= 0; tries--) {
            Desk desk = missed(8 - tries);
            due.is("kind 1", desk.send(Desk.PIN, kind(1)), 0);
            due.is("OUT", desk.out(), Bytes.of(0xA1, 1, tries));
            triesAndMisses(due, desk, tries, 0);
        }
        Desk desk = new Desk();
        due.is("without a PIN", desk.send(Desk.PIN, kind(1)), 0);
        due.is("OUT", desk.out(), Bytes.of(0xA1, 1, 8));
        due.is("with OLD and NEW", desk.send(Desk.PIN, kind(1).row(2, A).row(3, B)), 0);
        due.is("they are not used", desk.fob.count(3), 0);
        due.is("TURN stays", desk.fob.count(8), 1);
    }

    @Says("Kind 2: 20: no NEW;")
    static void kindTwoWithoutNew(Due due) {
        Desk desk = new Desk();
        due.is("kind 2", desk.send(Desk.PIN, kind(2)), 20);
        due.is("with OLD", desk.send(Desk.PIN, kind(2).row(2, A)), 20);
        due.is("nothing has changed", desk.counts(), "0 8 0 0 0 0 0 0 1 0");
    }

    @Says("51: there is a PIN;")
    static void thereIsAPin(Due due) {
        Desk desk = withPin();
        due.is("another PIN", desk.setPin(B), 51);
        due.is("the same PIN", desk.setPin(A), 51);
        due.is("with the right OLD", desk.send(Desk.PIN, kind(2).row(2, A).row(3, B)), 51);
        due.is("nothing has changed", desk.counts(), "0 8 0 1 0 0 0 0 2 0");
        due.is("the PIN stays", desk.tryPin(A), 0);
    }

    @Says("else it is NEW.")
    static void pinIsNew(Due due) {
        byte[][] pins = {new byte[16], Bytes.run(255, 16), A};
        for (byte[] pin : pins) {
            Desk desk = new Desk();
            due.is("kind 2", desk.setPin(pin), 0);
            due.is("there is a PIN", desk.fob.count(3), 1);
            due.is("bytes of OUT", desk.fob.count(6), 0);
            triesAndMisses(due, desk, 8, 0);
            due.is("all but the first bit", desk.tryPin(Bytes.turned(pin, 0)), 49);
            due.is("all but the last bit", desk.tryPin(Bytes.turned(pin, 127)), 49);
            due.is("it", desk.tryPin(pin), 0);
        }
    }

    @Says("Kind 3: 20: no OLD or no NEW;")
    static void kindThreeWithoutBoth(Due due) {
        Desk desk = withPin();
        due.is("no OLD", desk.send(Desk.PIN, kind(3).row(3, B)), 20);
        due.is("no NEW", desk.send(Desk.PIN, kind(3).row(2, A)), 20);
        due.is("no NEW and a wrong OLD", desk.send(Desk.PIN, kind(3).row(2, B)), 20);
        due.is("neither", desk.send(Desk.PIN, kind(3)), 20);
        due.is("nothing has changed", desk.counts(), "0 8 0 1 0 0 0 0 2 0");
        due.is("the PIN stays", desk.tryPin(A), 0);
    }

    @Says("OLD is TRIED; then it is NEW.")
    static void kindThree(Due due) {
        Desk desk = withPin();
        due.is("a wrong OLD", desk.changePin(B, B), 49);
        triesAndMisses(due, desk, 7, 1);
        due.is("TURN stays", desk.fob.count(8), 2);
        due.is("the right OLD", desk.changePin(A, B), 0);
        triesAndMisses(due, desk, 8, 0);
        due.is("bytes of OUT", desk.fob.count(6), 0);
        due.is("the one before", desk.tryPin(A), 49);
        due.is("the NEW", desk.tryPin(B), 0);
        due.is("to the same", desk.changePin(B, B), 0);
        due.is("it", desk.tryPin(B), 0);
    }

    @Says("Kind 4: 20: no OLD;")
    static void kindFourWithoutOld(Due due) {
        Desk desk = withPin();
        due.is("no OLD", desk.send(Desk.PIN, kind(4)), 20);
        due.is("NEW in its place", desk.send(Desk.PIN, kind(4).row(3, A)), 20);
        due.is("nothing has changed", desk.counts(), "0 8 0 1 0 0 0 0 2 0");
    }

    @Says("OLD is TRIED; OUT: 2: TOKEN.")
    static void kindFour(Due due) {
        Desk desk = withPin();
        due.is("a wrong OLD", desk.tryPin(B), 49);
        due.is("bytes of OUT", desk.fob.count(6), 0);
        triesAndMisses(due, desk, 7, 1);
        due.is("the right OLD", desk.tryPin(A), 0);
        due.is("OUT", desk.out(), new MapOf().row(2, Desk.fresh(1)).bytes());
        triesAndMisses(due, desk, 8, 0);
        due.is("TURN stays", desk.fob.count(8), 2);
        due.is("again", desk.tryPin(A), 0);
        due.is("the same TOKEN", desk.out(), new MapOf().row(2, Desk.fresh(1)).bytes());
        due.is("NEW is not used", desk.send(Desk.PIN, kind(4).row(2, A).row(3, B)), 0);
        due.is("the PIN stays", desk.tryPin(A), 0);
    }

    @Says("TRIED: 53: there is no PIN;")
    static void noPin(Due due) {
        Desk desk = new Desk();
        due.is("kind 3", desk.changePin(A, B), 53);
        due.is("kind 4", desk.tryPin(A), 53);
        due.is("a PIN of bytes 0", desk.tryPin(new byte[16]), 53);
        due.is("nothing has changed", desk.counts(), "0 8 0 0 0 0 0 0 1 0");
    }

    @Says("50: no TRIES are left;")
    static void noTriesAreLeft(Due due) {
        Desk desk = missed(8);
        due.is("the right one", desk.tryPin(A), 50);
        due.is("a wrong one", desk.tryPin(B), 50);
        due.is("the right one of kind 3", desk.changePin(A, B), 50);
        triesAndMisses(due, desk, 0, 0);
        desk.fob.power();
        due.is("the right one behind power", desk.tryPin(A), 50);
        due.is("a new PIN", desk.setPin(B), 51);

        Desk both = withPin();
        int[] due50 = {49, 49, 52, 49, 49, 49, 49, 50};
        for (int i = 0; i < 8; i++) {
            if (i == 3 || i == 5) {
                both.fob.power();
            }
            due.is("miss " + i, both.tryPin(B), i == 7 ? 50 : due50[i]);
        }
        triesAndMisses(due, both, 0, 3);
        due.is("50 before 52", both.tryPin(A), 50);
    }

    @Says("52: there are 3 MISSES.")
    static void threeMissesBefore(Due due) {
        Desk desk = withPin();
        desk.tryPin(B);
        desk.tryPin(B);
        due.is("the third", desk.tryPin(B), 52);
        due.is("the right one", desk.tryPin(A), 52);
        due.is("the right one of kind 3", desk.changePin(A, B), 52);
        due.is("a wrong one", desk.tryPin(B), 52);
        triesAndMisses(due, desk, 5, 3);
        due.is("TURN stays", desk.fob.count(8), 2);
        desk.fob.power();
        due.is("the right one behind power", desk.tryPin(A), 0);
    }

    @Says("Else TRIES are one less; if OLD is the PIN, TRIES are 8, MISSES 0.")
    static void rightOne(Due due) {
        for (int misses = 0; misses <= 7; misses++) {
            Desk desk = missed(misses);
            triesAndMisses(due, desk, 8 - misses, 0);
            due.is("right behind " + misses + " misses", desk.tryPin(A), 0);
            triesAndMisses(due, desk, 8, 0);
        }
        Desk desk = withPin();
        desk.tryPin(B);
        desk.tryPin(B);
        triesAndMisses(due, desk, 6, 2);
        due.is("right behind two MISSES", desk.tryPin(A), 0);
        triesAndMisses(due, desk, 8, 0);
        Desk third = withPin();
        third.tryPin(B);
        due.is("right by kind 3", third.changePin(A, B), 0);
        triesAndMisses(due, third, 8, 0);
    }

    @Says("If not, MISSES are one more;")
    static void missesAreOneMore(Due due) {
        Desk desk = withPin();
        for (int misses = 1; misses <= 3; misses++) {
            desk.tryPin(B);
            triesAndMisses(due, desk, 8 - misses, misses);
        }
        desk.fob.power();
        desk.changePin(B, A);
        triesAndMisses(due, desk, 4, 1);
    }

    @Says("50: no TRIES are left then;")
    static void lastTryIsMissed(Due due) {
        Desk desk = missed(7);
        triesAndMisses(due, desk, 1, 0);
        due.is("the eighth miss", desk.tryPin(B), 50);
        triesAndMisses(due, desk, 0, 1);
        due.is("bytes of OUT", desk.fob.count(6), 0);
        Desk third = missed(7);
        due.is("the eighth miss by kind 3", third.changePin(B, A), 50);
        due.is("TURN stays", third.fob.count(8), 10);
    }

    /** The eighth miss is also the third since power: no TRIES come first. */
    @Says("50: no TRIES are left then;")
    static void noTriesBeforeThreeMisses(Due due) {
        Desk desk = missed(5);
        due.is("the sixth miss", desk.tryPin(B), 49);
        due.is("the seventh", desk.tryPin(B), 49);
        due.is("the eighth", desk.tryPin(B), 50);
        triesAndMisses(due, desk, 0, 3);
    }

    @Says("52: there are 3 MISSES then;")
    static void thirdMiss(Due due) {
        Desk desk = withPin();
        due.is("a miss", desk.tryPin(B), 49);
        due.is("a second", desk.changePin(B, A), 49);
        due.is("the third", desk.tryPin(B), 52);
        triesAndMisses(due, desk, 5, 3);
        Desk between = withPin();
        between.tryPin(B);
        between.tryPin(B);
        between.tryPin(A);
        due.is("the third, with the right one between", between.tryPin(B), 49);
        Desk third = withPin();
        third.tryPin(B);
        third.tryPin(B);
        due.is("the third by kind 3", third.changePin(B, A), 52);
        due.is("the PIN stays", third.fob.count(8), 2);
    }

    @Says("else 49.")
    static void otherMisses(Due due) {
        for (int misses = 0; misses < 7; misses++) {
            due.is("the first behind power and " + misses, missed(misses).tryPin(B), 49);
        }
        for (int bit = 0; bit < 128; bit++) {
            due.is("bit " + bit + " wrong", withPin().tryPin(Bytes.turned(A, bit)), 49);
        }
    }

    @Says("Behind kinds 2 and 3 with STATUS 0 TOKEN is a FRESH row.")
    static void tokenIsFresh(Due due) {
        Desk desk = new Desk();
        due.is("kind 2", desk.setPin(A), 0);
        due.is("TURN", desk.fob.count(8), 2);
        due.is("TOKEN", desk.token(A), Desk.fresh(1));
        due.is("kind 3", desk.changePin(A, B), 0);
        due.is("TURN", desk.fob.count(8), 3);
        due.is("TOKEN", desk.token(B), Desk.fresh(2));
        due.is("kind 3 with a wrong OLD", desk.changePin(A, A), 49);
        due.is("kind 2 again", desk.setPin(A), 51);
        due.is("kind 1", desk.send(Desk.PIN, kind(1)), 0);
        due.is("TURN stays", desk.fob.count(8), 3);
        due.is("TOKEN stays", desk.token(B), Desk.fresh(2));
        due.is("kind 3 to the same", desk.changePin(B, B), 0);
        due.is("TOKEN", desk.token(B), Desk.fresh(3));
    }
}
