/** Promise 11: forged. */
public final class P11ForgedTest {
    public static void main(String[] args) {
        Sentences.run(P11ForgedTest.class);
    }

    @Says("The same, if the bit (0 .. 511; 0 the highest of r, 511 the lowest of s) of that SIGNATURE were the other "
            + "one")
    static void everyBit(Due due) {
        Desk desk = Desk.with("h", "u");
        Desk late = Desk.with("h", "u");
        for (int bit = 0; bit < 256; bit++) {
            due.is("forged(" + bit + ")", desk.fob.forged(bit), 0);
            due.is("forged(" + (bit + 256) + ")", late.fob.forged(bit + 256), 0);
        }
    }

    @Says("the other one (it stays).")
    static void itStays(Due due) {
        Desk desk = Desk.with("h", "ab");
        byte[] out = desk.out();
        int[] bits = {0, 1, 255, 256, 510, 511};
        for (int bit : bits) {
            due.is("forged(" + bit + ")", desk.fob.forged(bit), 0);
            due.is("forged(" + bit + ") again", desk.fob.forged(bit), 0);
            due.is("check()", desk.fob.check(), 1);
        }
        due.is("OUT", desk.out(), out);
        due.is("all that is counted", desk.counts(), "2 8 0 0 0 0 188 0 3 2");
        desk.get("h");
        due.is("forged(300) of GET", desk.fob.forged(300), 0);
        due.is("check() of GET", desk.fob.check(), 1);
        due.is("OUT of NEXT", desk.fob.send(Desk.NEXT), 0);
        due.is("forged(300) of NEXT", desk.fob.forged(300), 0);
        due.is("check() of NEXT", desk.fob.check(), 1);
    }

    @Says("(it stays). OUTSIDE;")
    static void outside(Due due) {
        int[] never = {-1, -2, -512, 512, 513, 1000, Integer.MAX_VALUE, Integer.MIN_VALUE};
        Desk desk = new Desk();
        for (int bit : never) {
            due.is("forged(" + bit + ") at first", desk.fob.forged(bit), KeyFob.OUTSIDE);
        }
        desk.make("h", "u");
        for (int bit : never) {
            due.is("forged(" + bit + ")", desk.fob.forged(bit), KeyFob.OUTSIDE);
        }
        due.is("forged(0)", desk.fob.forged(0), 0);
        due.is("forged(511)", desk.fob.forged(511), 0);
    }

    @Says("OUTSIDE; NONE.")
    static void none(Due due) {
        int[] bits = {0, 255, 256, 511};
        Desk desk = new Desk();
        for (int bit : bits) {
            due.is("forged(" + bit + ") at first", desk.fob.forged(bit), KeyFob.NONE);
        }
        desk.make("h", "u");
        desk.fob.touch();
        desk.fob.send(Desk.RESET);
        for (int bit : bits) {
            due.is("forged(" + bit + ") behind RESET", desk.fob.forged(bit), KeyFob.NONE);
        }
    }
}
