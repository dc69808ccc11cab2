/** Promise 2: feed. */
public final class P02FeedTest {
    public static void main(String[] args) {
        Sentences.run(P02FeedTest.class);
    }

    @Says("Twenty bytes come behind the tape, the highest of each number first: how many it has.")
    static void twentyBytesAreAMap(Due due) {
        // Kind 1, and a ROW of 15 bytes under a NAME that PIN does not know.
        Desk desk = new Desk();
        due.is("feed", desk.fob.feed(0xA2010104, 0x4F000102, 0x03040506, 0x0708090A, 0x0B0C0D0E), 20);
        due.is("count(7)", desk.fob.count(7), 20);
        due.is("PIN", desk.fob.send(Desk.PIN), 0);
        due.is("feed behind a command", desk.fob.feed(0, 0, 0, 0, 0), 20);
        due.is("feed behind twenty", desk.fob.feed(0, 0, 0, 0, 0), 40);
        due.is("trim", desk.fob.trim(33), 33);
        due.is("feed behind 33", desk.fob.feed(0, 0, 0, 0, 0), 53);
    }

    /** A KEY tells what stood on the tape: 16 bytes of USER, fed as four numbers at each of five places. */
    @Says("Twenty bytes come behind the tape, the highest of each number first: how many it has.")
    static void eachByteComesToItsPlace(Due due) {
        byte[] user = Bytes.of(0x80, 0x7F, 0xFF, 0, 0xFE, 1, 0x81, 0x55, 0xAA, 0, 9, 8, 0x7F, 0xFF, 0xFF, 0xFF);
        for (int shift = 0; shift < 20; shift++) {
            Desk desk = new Desk();
            desk.fob.touch();
            MapOf map = Desk.makeMap("h", "u").row(3, user);
            // NAME 0 in front moves what is behind it by one byte more each time.
            due.is("MAKE", desk.send(Desk.MAKE, map.row(0, new byte[shift])), 0);
            due.is("USER", desk.key(0, 1), user);
            due.is("HOUSE", desk.key(0, 0), Bytes.hash(Bytes.text("h")));
        }
    }

    @Says("FULL: it would have more than 400.")
    static void full(Due due) {
        Fob fob = new Fob();
        for (int i = 1; i <= 20; i++) {
            due.is("feed " + i, fob.feed(i, -1, Integer.MIN_VALUE, Integer.MAX_VALUE, 0), 20 * i);
        }
        due.is("feed to 420", fob.feed(1, 2, 3, 4, 5), KeyFob.FULL);
        due.is("the tape stays", fob.count(7), 400);
        for (int n = 399; n > 380; n--) {
            due.is("trim", fob.trim(n), n);
            due.is("feed to " + (n + 20), fob.feed(1, 2, 3, 4, 5), KeyFob.FULL);
            due.is("the tape stays", fob.count(7), n);
        }
        due.is("trim", fob.trim(380), 380);
        due.is("feed to 400", fob.feed(1, 2, 3, 4, 5), 400);
    }

    @Says("FULL: it would have more than 400.")
    static void bytesOfAFullTapeStay(Due due) {
        Desk desk = new Desk();
        byte[] map = new MapOf().number(1, 1).row(4, Bytes.run(1, 255)).text(6, Bytes.run(2, 136)).bytes();
        due.is("bytes of the map", map.length, 399 + 1);
        desk.write(map);
        due.is("feed", desk.fob.feed(-1, -1, -1, -1, -1), KeyFob.FULL);
        due.is("the map is whole", desk.fob.send(Desk.PIN), 0);
        due.is("feed behind it", desk.fob.feed(0, 0, 0, 0, 0), 20);
    }
}
