/** Promise 3: trim. */
public final class P03TrimTest {
    public static void main(String[] args) {
        Sentences.run(P03TrimTest.class);
    }

    @Says("The tape keeps its first n bytes: n.")
    static void firstBytesAreKept(Due due) {
        Fob fob = new Fob();
        due.is("trim(0) of an empty tape", fob.trim(0), 0);
        fob.feed(0xA1010100, -1, -1, -1, -1);
        due.is("trim(20)", fob.trim(20), 20);
        due.is("count(7)", fob.count(7), 20);
        due.is("trim(4)", fob.trim(4), 4);
        due.is("trim(3)", fob.trim(3), 3);
        due.is("count(7)", fob.count(7), 3);
        due.is("PIN", fob.send(6), 0);
        fob.feed(0xA1010100, 0, 0, 0, 0);
        due.is("trim(0)", fob.trim(0), 0);
        due.is("count(7)", fob.count(7), 0);
        due.is("PIN", fob.send(6), 18);
        for (int n = 400; n >= 0; n--) {
            Desk desk = new Desk();
            desk.write(new byte[400]);
            due.is("trim(" + n + ")", desk.fob.trim(n), n);
        }
    }

    @Says("n bytes: n. OUTSIDE.")
    static void outside(Due due) {
        Fob fob = new Fob();
        int[] never = {-1, -2, -400, 401, 1000, Integer.MAX_VALUE, Integer.MIN_VALUE};
        for (int n : never) {
            due.is("trim(" + n + ") of an empty tape", fob.trim(n), KeyFob.OUTSIDE);
        }
        due.is("trim(1) of an empty tape", fob.trim(1), KeyFob.OUTSIDE);
        fob.feed(0xA1010100, 0, 0, 0, 0);
        due.is("trim(21) of 20", fob.trim(21), KeyFob.OUTSIDE);
        for (int n : never) {
            due.is("trim(" + n + ") of 20", fob.trim(n), KeyFob.OUTSIDE);
        }
        due.is("the tape stays", fob.count(7), 20);
        due.is("trim(3)", fob.trim(3), 3);
        due.is("what was cut off does not come back", fob.trim(4), KeyFob.OUTSIDE);
        due.is("the first three stay", fob.send(6), 0);
        due.is("trim(1) behind a command", fob.trim(1), KeyFob.OUTSIDE);
    }
}
