/** Promise 13: key tells the bytes of a KEY. */
public final class P13KeyTest {
    public static void main(String[] args) {
        Due due = new Due();
        Desk desk = new Desk();
        due.is("key(0, 0, 0) without KEYS", desk.fob.key(0, 0, 0), KeyFob.NONE);
        desk.make("first", "sixteen bytes 16");
        byte[] data = Bytes.part(desk.out(), 4, 117);
        desk.make("second", "u");
        due.is("HOUSE", desk.key(0, 0), Bytes.hash(Bytes.text("first")));
        due.is("USER", desk.key(0, 1), Bytes.text("sixteen bytes 16"));
        due.is("ID", desk.key(0, 2), Bytes.part(data, 37, 16));
        due.is("x and y", desk.key(0, 4), Bytes.part(data, 53, 64));
        due.is("HOUSE of 1", desk.key(1, 0), Bytes.hash(Bytes.text("second")));
        due.is("USER of 1", desk.key(1, 1), Bytes.text("u"));
        due.is("key(1, 1, 1)", desk.fob.key(1, 1, 1), KeyFob.NONE);
        desk.fob.advance(0, 0x81020384);
        due.is("COUNTER", desk.key(0, 3), Bytes.of(0x81, 2, 3, 0x84));
        int[] sizes = {32, 16, 16, 4, 64};
        for (int what = 0; what < sizes.length; what++) {
            String call = "key(0, " + what + ", ";
            due.is(call + "last)", desk.fob.key(0, what, sizes[what] - 1) >= 0 ? 1 : 0, 1);
            due.is(call + sizes[what] + ")", desk.fob.key(0, what, sizes[what]), KeyFob.NONE);
            due.is(call + "-1)", desk.fob.key(0, what, -1), KeyFob.NONE);
            due.is(call + "MIN)", desk.fob.key(0, what, Integer.MIN_VALUE), KeyFob.NONE);
            due.is(call + "MAX)", desk.fob.key(0, what, Integer.MAX_VALUE), KeyFob.NONE);
        }
        int[] none = {-1, 2, 9, 10, Integer.MAX_VALUE, Integer.MIN_VALUE};
        for (int k : none) {
            due.is("key(" + k + ", 0, 0)", desk.fob.key(k, 0, 0), KeyFob.NONE);
        }
        int[] noWhat = {-1, 5, Integer.MAX_VALUE, Integer.MIN_VALUE};
        for (int what : noWhat) {
            due.is("key(0, " + what + ", 0)", desk.fob.key(0, what, 0), KeyFob.NONE);
        }
        due.end();
    }
}
