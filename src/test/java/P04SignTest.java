import java.math.BigInteger;

/** Terms 1: bytes, HASH, MAC, the curve, and TO SIGN. */
public final class P04SignTest {
    // Words for which the KEY of TURN 1 signs at an edge: found by trying some 2^32 of them.
    private static final byte[] WORD_OF_HASH_FROM_N_ON = Bytes.wide(0x005EC71313L);
    private static final byte[] WORD_OF_NONCE_FROM_N_ON = Bytes.wide(0x003A44E575L);

    public static void main(String[] args) {
        Sentences.run(P04SignTest.class);
    }

    @Says("255. A ROW of some is told with the first byte first.")
    static void bytesAndRows(Due due) {
        byte[] user = Bytes.of(0, 1, 127, 128, 129, 254, 255, 9);
        Desk desk = new Desk();
        desk.fob.touch();
        due.is("MAKE", desk.send(Desk.MAKE, Desk.makeMap("h", "u").row(3, user)), 0);
        for (int i = 0; i < user.length; i++) {
            due.is("byte " + i + " of USER", desk.fob.key(0, 1, i), user[i] & 255);
        }
        byte[] out = desk.out();
        due.is("ID in OUT", Bytes.part(out, 41, 16), desk.key(0, 2));
    }

    @Says("HASH is SHA-256 (32 bytes).")
    static void hashOfEachLength(Due due) {
        for (int n = 1; n <= 32; n++) {
            Desk desk = new Desk();
            desk.fob.touch();
            due.is("MAKE", desk.send(Desk.MAKE, Desk.makeMap("h", "u").text(2, Bytes.run(n, n))), 0);
            due.is("HASH of " + n + " bytes", desk.key(0, 0), Bytes.hash(Bytes.run(n, n)));
        }
    }

    private static byte[] masked(byte[] token, int mask) {
        byte[] row = Bytes.join(token, new byte[32]);
        for (int i = 0; i < row.length; i++) {
            row[i] ^= (byte) mask;
        }
        return row;
    }

    @Says("MAC of a key of 32 bytes and a row: HASH(o, HASH(i, row)), i being the key and 32 bytes 0, each by "
            + "exclusive or with 54, o likewise with 92.")
    static void mac(Due due) {
        Desk desk = Desk.with("h", "u");
        desk.setPin(Desk.PIN_A);
        byte[] token = Desk.fresh(2);
        byte[] mac = Bytes.hash(masked(token, 92), Bytes.hash(masked(token, 54), Desk.WORD));
        byte[] swapped = Bytes.hash(masked(token, 54), Bytes.hash(masked(token, 92), Desk.WORD));
        desk.fob.touch();
        due.is("54 and 92 swapped", desk.send(Desk.GET, Desk.getMap("h").row(6, Bytes.part(swapped, 0, 16))), 51);
        due.is("the MAC for GET", desk.send(Desk.GET, Desk.getMap("h").row(6, Bytes.part(mac, 0, 16))), 0);
        desk.fob.touch();
        due.is("the MAC for MAKE", desk.send(Desk.MAKE, Desk.makeMap("h", "v").row(8, Bytes.part(mac, 0, 16))), 0);
    }

    @Says("THE CURVE: pairs (x, y) of 0 .. p - 1 with y * y = x * x * x - 3 * x + b modulo p, and the one that is "
            + "none; sums as on any such curve; G, of the order n. In hexadecimals: "
            + "p = FFFFFFFF 00000001 00000000 00000000 00000000 FFFFFFFF FFFFFFFF FFFFFFFF "
            + "b = 5AC635D8 AA3A93E7 B3EBBD55 769886BC 651D06B0 CC53B0F6 3BCE3C3E 27D2604B "
            + "n = FFFFFFFF 00000000 FFFFFFFF FFFFFFFF BCE6FAAD A7179E84 F3B9CAC2 FC632551 "
            + "G: x = 6B17D1F2 E12C4247 F8BCE6E5 63A440F2 77037D81 2DEB33A0 F4A13945 D898C296, "
            + "y = 4FE342E2 FE1A7F9B 8EE7EB4A 7C0F9E16 2BCE3357 6B315ECE CBB64068 37BF51F5")
    static void pointsOfTheCurve(Due due) {
        Desk desk = Desk.with("h", "abcd");
        for (int k = 0; k < 4; k++) {
            byte[] row = desk.key(k, 4);
            BigInteger x = PlainCurve.number(Bytes.part(row, 0, 32));
            BigInteger y = PlainCurve.number(Bytes.part(row, 32, 32));
            BigInteger right = x.pow(3).subtract(x.multiply(BigInteger.valueOf(3))).add(PlainCurve.B);
            due.holds("x and y are below p", x.compareTo(PlainCurve.P) < 0 && y.compareTo(PlainCurve.P) < 0);
            due.holds("they lie on the curve", y.multiply(y).subtract(right).mod(PlainCurve.P).signum() == 0);
            due.is("d times G", row, PlainCurve.point(Desk.secret(k + 1)));
        }
    }

    /** At these TURNS y, x and d begin with a byte 0. */
    @Says("Numbers below 2^256 are rows of 32 bytes, the highest first.")
    static void numbersWithAHighestByteOfZero(Due due) {
        Desk desk = new Desk();
        desk.turnTo(15);
        desk.make("h", "y");
        due.is("the highest byte of y", desk.fob.key(0, 4, 32), 0);
        due.is("x and y", desk.key(0, 4), PlainCurve.point(Desk.secret(15)));
        desk.turnTo(26);
        desk.make("h", "x");
        due.is("the highest byte of x", desk.fob.key(1, 4, 0), 0);
        due.is("x and y", desk.key(1, 4), PlainCurve.point(Desk.secret(26)));

        Desk late = new Desk();
        late.turnTo(433);
        late.make("h", "d");
        due.is("the highest byte of d", Desk.secret(433)[0], 0);
        due.is("ID", late.key(0, 2), Bytes.part(Bytes.hash(Desk.secret(433)), 0, 16));
    }

    private static byte[] signatureOf(Due due, byte[] word) {
        Desk desk = Desk.with("h", "u");
        desk.fob.touch();
        due.is("GET", desk.send(Desk.GET, Desk.getMap("h").row(2, word)), 0);
        byte[] out = desk.out();
        due.is("OUT", out, Desk.asserted("h", "u", 1, 1, 1, word).bytes());
        due.is("check()", desk.fob.check(), 1);
        byte[] signature = Bytes.part(out, 62, 64);
        due.holds("the library takes it for right",
                Desk.isSigned(Bytes.join(Bytes.part(out, 22, 37), word), desk.key(0, 4), signature));
        return signature;
    }

    /** For these words r and s begin with a byte 0. */
    @Says("the first i with r and s not 0: the SIGNATURE is r, s (64 bytes).")
    static void signatureHasSixtyFourBytes(Due due) {
        due.is("the highest byte of r", signatureOf(due, Bytes.wide(121))[0], 0);
        due.is("the highest byte of s", signatureOf(due, Bytes.wide(30))[32], 0);
        Desk desk = Desk.with("h", "u");
        due.is("the two lengths in OUT of MAKE", desk.out(121, 3), Bytes.of(2, 0x58, 64));
    }

    private static byte[] hashToSign(byte[] word) {
        return Bytes.hash(Bytes.hash(Bytes.text("h")), Bytes.of(1), Bytes.four(1), word);
    }

    @Says("TO SIGN a hash h with a key d (1 .. n - 1): for i = 0, 1, ..: k = 1 + (HASH(d, h, one byte i) modulo "
            + "(n - 1));")
    static void nonceWrapsAround(Due due) {
        byte[] word = WORD_OF_NONCE_FROM_N_ON;
        BigInteger seed = PlainCurve.number(Bytes.hash(Desk.secret(1), hashToSign(word), Bytes.of(0)));
        due.holds("the HASH is not below n", seed.compareTo(PlainCurve.N) >= 0);
        signatureOf(due, word);
        signatureOf(due, Desk.WORD);
    }

    @Says("r = the x of k times G, modulo n; s = (h + r * d) / k, modulo n;")
    static void hashWrapsAround(Due due) {
        byte[] word = WORD_OF_HASH_FROM_N_ON;
        due.holds("h is not below n", PlainCurve.number(hashToSign(word)).compareTo(PlainCurve.N) >= 0);
        signatureOf(due, word);
        signatureOf(due, new byte[32]);
    }
}
