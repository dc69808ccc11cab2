/** Promise 9: advance. */
public final class P09AdvanceTest {
    public static void main(String[] args) {
        Due due = new Due();
        Desk desk = new Desk();
        due.is("advance(0, 0) without KEYS", desk.fob.advance(0, 0), KeyFob.NONE);
        desk.make("h", "a");
        desk.make("h", "b");
        int[] none = {-1, 2, 10, Integer.MAX_VALUE, Integer.MIN_VALUE};
        for (int k : none) {
            due.is("advance(" + k + ", 1)", desk.fob.advance(k, 1), KeyFob.NONE);
        }
        due.is("to the same", desk.fob.advance(1, 0), 1);
        due.is("to 258", desk.fob.advance(1, 258), 1);
        due.is("COUNTER", desk.key(1, 3), Bytes.four(258));
        due.is("the other one stays", desk.key(0, 3), Bytes.four(0));
        due.is("below", desk.fob.advance(1, 257), 0);
        due.is("it stays", desk.key(1, 3), Bytes.four(258));
        due.is("to the same", desk.fob.advance(1, 258), 1);
        due.is("to 2^31 - 1", desk.fob.advance(1, Integer.MAX_VALUE), 1);
        due.is("to 2^31", desk.fob.advance(1, Integer.MIN_VALUE), 1);
        due.is("COUNTER", desk.key(1, 3), Bytes.of(128, 0, 0, 0));
        due.is("back to 2^31 - 1", desk.fob.advance(1, Integer.MAX_VALUE), 0);
        due.is("to the last", desk.fob.advance(1, -1), 1);
        due.is("COUNTER", desk.key(1, 3), Bytes.of(255, 255, 255, 255));
        due.is("back by one", desk.fob.advance(1, -2), 0);
        due.is("back to 0", desk.fob.advance(1, 0), 0);
        due.is("to the last again", desk.fob.advance(1, -1), 1);
        desk.make("h", "a");
        due.is("0 is the one made first of those that are kept", desk.fob.advance(0, 5), 0);
        due.is("1 is the new one", desk.fob.advance(1, 5), 1);
        due.is("its USER", desk.key(1, 1), Bytes.text("a"));
        due.end();
    }
}
