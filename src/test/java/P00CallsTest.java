/** How long an object is used. */
public final class P00CallsTest {
    public static void main(String[] args) {
        Sentences.run(P00CallsTest.class);
    }

    @Says("An object is used for at most 512 calls after it has been made; what later calls answer is free.")
    static void theLastCallIsAsDue(Due due) {
        Desk desk = new Desk();
        for (int turn = 2; desk.fob.calls() < Fob.MOST_CALLS; turn++) {
            due.is("power()", desk.fob.power(), turn);
        }

        desk = new Desk();
        desk.turnTo(497);
        due.is("MAKE", desk.make("h", "u"), 0);
        due.is("GET", desk.get("h"), 0);
        due.is("the 511th call", desk.fob.forged(0), 0);
        due.is("the 512th call", desk.fob.check(), 1);
        due.is("calls", desk.fob.calls(), Fob.MOST_CALLS);
    }
}
