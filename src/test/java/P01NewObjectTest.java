/** Promise 1: a new object is as at first, with an empty tape and no OUT. */
public final class P01NewObjectTest {
    public static void main(String[] args) {
        Due due = new Due();
        int[] first = {0, 8, 0, 0, 0, 0, 0, 0, 1, 0};
        KeyFob fob = new KeyFob();
        for (int what = 0; what < first.length; what++) {
            due.is("count(" + what + ")", fob.count(what), first[what]);
        }
        due.is("out(0)", fob.out(0), KeyFob.NONE);
        due.is("key(0, 0, 0)", fob.key(0, 0, 0), KeyFob.NONE);
        due.is("check()", fob.check(), KeyFob.NONE);

        Desk desk = new Desk();
        byte[] master = Bytes.hash(Bytes.of(0));
        due.is("make", desk.make("a", "b"), 0);
        due.is("the secret is the second FRESH row", desk.key(0, 2),
                Bytes.part(Bytes.hash(Model.scalar(Bytes.hash(master, Bytes.four(1)))), 0, 16));

        Desk other = new Desk();
        due.is("an object does not see another's calls", other.fob.count(0), 0);
        due.is("make", other.make("a", "b"), 0);
        due.is("the same calls give the same answers", other.out(), desk.out());

        due.is("NONE", KeyFob.NONE, -1);
        due.is("OUTSIDE", KeyFob.OUTSIDE, -3);
        due.is("FULL", KeyFob.FULL, -5);
        due.end();
    }
}
