/** Promise 9: advance. */
public final class P09AdvanceTest {
    public static void main(String[] args) {
        Sentences.run(P09AdvanceTest.class);
    }

    @Says("The COUNTER of KEY k (0 for the one made first of those that are kept)")
    static void whichKey(Due due) {
        Desk desk = Desk.with("h", "abc");
        due.is("advance(0, 5)", desk.fob.advance(0, 5), 1);
        due.is("advance(2, 7)", desk.fob.advance(2, 7), 1);
        due.is("COUNTERS", Bytes.join(desk.key(0, 3), desk.key(1, 3), desk.key(2, 3)),
                Bytes.join(Bytes.four(5), Bytes.four(0), Bytes.four(7)));
        desk.make("h", "a");
        due.is("advance(0, 9) of what was KEY 1", desk.fob.advance(0, 9), 1);
        due.is("COUNTERS", Bytes.join(desk.key(0, 3), desk.key(1, 3), desk.key(2, 3)),
                Bytes.join(Bytes.four(9), Bytes.four(7), Bytes.four(0)));
        due.is("USERS", desk.users(), "b c a");
    }

    @Says("becomes v (as of 32 bits without a sign),")
    static void withoutASign(Due due) {
        int[] values = {0, 1, 255, 256, 65536, Integer.MAX_VALUE, Integer.MIN_VALUE, -256, -2, -1};
        Desk desk = Desk.with("h", "u");
        for (int v : values) {
            due.is("advance(0, " + v + ")", desk.fob.advance(0, v), 1);
            due.is("COUNTER", desk.key(0, 3), Bytes.four(v));
        }
        Desk next = Desk.with("h", "u");
        next.fob.advance(0, Integer.MIN_VALUE);
        due.is("GET", next.get("h"), 0);
        due.is("COUNTER", next.key(0, 3), Bytes.four(0x80000001L));
    }

    @Says("if that is not below it: 1;")
    static void notBelow(Due due) {
        Desk desk = Desk.with("h", "u");
        int[] values = {0, 5, Integer.MAX_VALUE, Integer.MIN_VALUE, -1};
        for (int v : values) {
            due.is("advance(0, " + v + ")", desk.fob.advance(0, v), 1);
            due.is("the same", desk.fob.advance(0, v), 1);
            due.is("COUNTER", desk.key(0, 3), Bytes.four(v));
        }
    }

    @Says("without a sign), if that is not below it: 1; else 0.")
    static void below(Due due) {
        Desk desk = Desk.with("h", "u");
        int[][] steps = {{1, 0}, {258, 257}, {258, 0}, {Integer.MIN_VALUE, Integer.MAX_VALUE}, {Integer.MIN_VALUE, 0},
            {-1, -2}, {-1, 0}, {-1, Integer.MAX_VALUE}, {-1, Integer.MIN_VALUE}};
        for (int[] step : steps) {
            desk.fob.advance(0, step[0]);
            due.is("advance(0, " + step[1] + ") from " + step[0], desk.fob.advance(0, step[1]), 0);
            due.is("COUNTER stays", desk.key(0, 3), Bytes.four(step[0]));
        }
    }

    @Says("NONE: no such KEY.")
    static void noSuchKey(Due due) {
        int[] never = {-1, -2, 10, 11, Integer.MAX_VALUE, Integer.MIN_VALUE};
        Desk desk = new Desk();
        due.is("advance(0, 0) without KEYS", desk.fob.advance(0, 0), KeyFob.NONE);
        for (char user : "abcdefghij".toCharArray()) {
            int made = desk.fob.count(0);
            due.is("advance(" + made + ", 0) of " + made, desk.fob.advance(made, 0), KeyFob.NONE);
            desk.make("h", String.valueOf(user));
            due.is("advance(" + made + ", 0)", desk.fob.advance(made, 0), 1);
            for (int k : never) {
                due.is("advance(" + k + ", 1)", desk.fob.advance(k, 1), KeyFob.NONE);
            }
        }
        desk.fob.touch();
        desk.fob.send(Desk.RESET);
        due.is("advance(0, 0) behind RESET", desk.fob.advance(0, 0), KeyFob.NONE);
    }
}
