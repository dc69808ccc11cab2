/** Promise 2: feed puts twenty bytes behind the tape, the highest of each number first. */
public final class P02FeedTest {
    public static void main(String[] args) {
        Due due = new Due();
        order(due);
        full(due);
        due.end();
    }

    private static void order(Due due) {
        // The twenty bytes are a whole map: kind 1 and a row of 15 bytes under a NAME that PIN does not know.
        Desk desk = new Desk();
        due.is("feed", desk.fob.feed(0xA2010104, 0x4F000102, 0x03040506, 0x0708090A, 0x0B0C0D0E), 20);
        due.is("send(6)", desk.fob.send(6), 0);

        // HOUSE and USER of a key tell that every byte came to its place.
        byte[] user = Bytes.of(0x80, 0x7F, 0xFF, 0x00, 0xFE, 0x01, 0x81, 0x55, 0xAA, 0, 9, 8, 7, 6, 5, 0xFF);
        byte[] house = Bytes.run(200, 32);
        desk.fob.touch();
        due.is("make", desk.send(Desk.MAKE, new MapOf().row(1, Desk.WORD).text(2, house).row(3, user)), 0);
        due.is("USER", desk.key(0, 1), user);
        due.is("HOUSE", desk.key(0, 0), Bytes.hash(house));
    }

    private static void full(Due due) {
        KeyFob fob = new KeyFob();
        for (int i = 1; i <= 20; i++) {
            due.is("feed " + i, fob.feed(i, -1, Integer.MIN_VALUE, Integer.MAX_VALUE, 0), 20 * i);
        }
        due.is("feed of 420", fob.feed(1, 2, 3, 4, 5), KeyFob.FULL);
        due.is("the tape stays", fob.count(7), 400);
        due.is("trim(381)", fob.trim(381), 381);
        due.is("feed of 401", fob.feed(1, 2, 3, 4, 5), KeyFob.FULL);
        due.is("trim(380)", fob.trim(380), 380);
        due.is("feed of 400", fob.feed(1, 2, 3, 4, 5), 400);
    }
}
