/** Promise 3: trim keeps the first bytes of the tape. */
public final class P03TrimTest {
    public static void main(String[] args) {
        Due due = new Due();
        KeyFob fob = new KeyFob();
        due.is("trim(0) of an empty tape", fob.trim(0), 0);
        due.is("trim(1) of an empty tape", fob.trim(1), KeyFob.OUTSIDE);
        due.is("trim(-1)", fob.trim(-1), KeyFob.OUTSIDE);
        fob.feed(0xA1010100, 0, 0, 0, 0);
        due.is("trim(21)", fob.trim(21), KeyFob.OUTSIDE);
        due.is("trim(MAX)", fob.trim(Integer.MAX_VALUE), KeyFob.OUTSIDE);
        due.is("trim(MIN)", fob.trim(Integer.MIN_VALUE), KeyFob.OUTSIDE);
        due.is("the tape stays", fob.count(7), 20);
        due.is("trim(20)", fob.trim(20), 20);
        due.is("trim(3)", fob.trim(3), 3);
        due.is("count(7)", fob.count(7), 3);
        due.is("trim(4)", fob.trim(4), KeyFob.OUTSIDE);
        due.is("the first three are kept", fob.send(6), 0);
        due.is("the tape is empty behind a command", fob.trim(1), KeyFob.OUTSIDE);
        due.end();
    }
}
