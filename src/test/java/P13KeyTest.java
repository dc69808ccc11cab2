/** Promise 13: key. */
public final class P13KeyTest {
    private static final int MAX = Integer.MAX_VALUE, MIN = Integer.MIN_VALUE;

    public static void main(String[] args) {
        Sentences.run(P13KeyTest.class);
    }

    private static void ends(Due due, Desk desk, int what, int size) {
        due.holds("the last", desk.fob.key(0, what, size - 1) >= 0);
        int[] none = {-1, -2, size, size + 1, 32, 64, 255, 256, MAX, MIN};
        for (int i : none) {
            if (i < 0 || i >= size) {
                due.is("key(0, " + what + ", " + i + ")", desk.fob.key(0, what, i), KeyFob.NONE);
            }
        }
    }

    @Says("Byte i of KEY k (as in advance()):")
    static void whichKey(Due due) {
        Desk desk = Desk.with("h", "abc");
        due.is("USER of 0", desk.key(0, 1), Bytes.text("a"));
        due.is("USER of 2", desk.key(2, 1), Bytes.text("c"));
        desk.make("h", "a");
        due.is("USER of 0", desk.key(0, 1), Bytes.text("b"));
        due.is("USER of 2", desk.key(2, 1), Bytes.text("a"));
        due.is("ID of 0", desk.key(0, 2), Desk.id(2));
        due.is("ID of 2", desk.key(2, 2), Desk.id(4));
    }

    @Says("what 0 of its HOUSE,")
    static void house(Due due) {
        Desk desk = Desk.with("first", "u");
        desk.make("second", "u");
        due.is("HOUSE", desk.key(0, 0), Bytes.hash(Bytes.text("first")));
        due.is("HOUSE of 1", desk.key(1, 0), Bytes.hash(Bytes.text("second")));
        ends(due, desk, 0, 32);
    }

    @Says("1 of its USER,")
    static void user(Due due) {
        Desk desk = new Desk();
        desk.make("h", "sixteen bytes 16");
        desk.make("h", "v");
        due.is("USER", desk.key(0, 1), Bytes.text("sixteen bytes 16"));
        due.is("USER of 1", desk.key(1, 1), Bytes.text("v"));
        ends(due, desk, 1, 16);
        due.is("key(1, 1, 1) of a USER of one byte", desk.fob.key(1, 1, 1), KeyFob.NONE);
        due.is("key(1, 1, 15) of a USER of one byte", desk.fob.key(1, 1, 15), KeyFob.NONE);
        desk.make("h", "sixteen bytes 16");
        due.is("key(0, 1, 1) of the one that is first now", desk.fob.key(0, 1, 1), KeyFob.NONE);
    }

    /** A place that is used again does not tell the bytes of a longer USER before it. */
    @Says("1 of its USER,")
    static void shorterUserBehindReset(Due due) {
        Desk desk = new Desk();
        desk.make("h", "sixteen bytes 16");
        desk.fob.touch();
        desk.fob.send(Desk.RESET);
        due.is("key(0, 1, 0) behind RESET", desk.fob.key(0, 1, 0), KeyFob.NONE);
        desk.make("h", "uv");
        due.is("USER", desk.key(0, 1), Bytes.text("uv"));
    }

    @Says("2 of its ID,")
    static void id(Due due) {
        Desk desk = Desk.with("h", "ab");
        due.is("ID", desk.key(0, 2), Desk.id(1));
        due.is("ID of 1", desk.key(1, 2), Desk.id(2));
        ends(due, desk, 2, 16);
    }

    @Says("3 of its COUNTER (4 bytes, the highest first),")
    static void counter(Due due) {
        Desk desk = Desk.with("h", "ab");
        due.is("COUNTER", desk.key(0, 3), Bytes.of(0, 0, 0, 0));
        desk.fob.advance(0, 0x01020384);
        due.is("COUNTER", desk.key(0, 3), Bytes.of(1, 2, 3, 0x84));
        desk.fob.advance(0, 0x81020384);
        due.is("COUNTER", desk.key(0, 3), Bytes.of(0x81, 2, 3, 0x84));
        desk.fob.advance(0, -1);
        due.is("COUNTER", desk.key(0, 3), Bytes.of(255, 255, 255, 255));
        due.is("COUNTER of 1", desk.key(1, 3), Bytes.of(0, 0, 0, 0));
        ends(due, desk, 3, 4);
    }

    @Says("4 of x, then y (64 bytes).")
    static void point(Due due) {
        Desk desk = Desk.with("h", "ab");
        due.is("x, then y", desk.key(0, 4), PlainCurve.point(Desk.secret(1)));
        due.is("x, then y of 1", desk.key(1, 4), PlainCurve.point(Desk.secret(2)));
        due.is("as in DATA", desk.out(57, 64), PlainCurve.point(Desk.secret(2)));
        ends(due, desk, 4, 64);
    }

    @Says("NONE: there is none such.")
    static void none(Due due) {
        int[] noKey = {-1, -2, 2, 3, 9, 10, MAX, MIN};
        int[] noWhat = {-1, -2, 5, 6, 255, 256, MAX, MIN};
        Desk empty = new Desk();
        for (int what = 0; what < 5; what++) {
            due.is("key(0, " + what + ", 0) without KEYS", empty.fob.key(0, what, 0), KeyFob.NONE);
        }
        Desk desk = Desk.with("h", "ab");
        for (int what = 0; what < 5; what++) {
            for (int k : noKey) {
                due.is("key(" + k + ", " + what + ", 0)", desk.fob.key(k, what, 0), KeyFob.NONE);
            }
        }
        for (int what : noWhat) {
            due.is("key(0, " + what + ", 0)", desk.fob.key(0, what, 0), KeyFob.NONE);
            due.is("key(1, " + what + ", 3)", desk.fob.key(1, what, 3), KeyFob.NONE);
        }
        Desk full = Desk.with("h", "abcdefghij");
        due.holds("key(9, 0, 0) of ten", full.fob.key(9, 0, 0) >= 0);
        due.is("key(10, 0, 0) of ten", full.fob.key(10, 0, 0), KeyFob.NONE);
    }
}
