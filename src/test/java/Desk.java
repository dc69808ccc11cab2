import java.math.BigInteger;
import java.security.AlgorithmParameters;
import java.security.GeneralSecurityException;
import java.security.KeyFactory;
import java.security.Signature;
import java.security.spec.ECGenParameterSpec;
import java.security.spec.ECParameterSpec;
import java.security.spec.ECPoint;
import java.security.spec.ECPublicKeySpec;

/** A fob with calls that tests make often, and what is due for them. */
final class Desk {
    static final int MAKE = 1, GET = 2, PIN = 6, RESET = 7, NEXT = 8;
    static final byte[] WORD = Bytes.run(3, 32);
    static final byte[] PIN_A = Bytes.run(101, 16);
    static final byte[] PIN_B = Bytes.run(102, 16);
    static final byte[] MASTER = Bytes.hash(Bytes.of(0));

    final Fob fob = new Fob();

    /** The FRESH row of a TURN, before any RESET. */
    static byte[] fresh(int turn) {
        return Bytes.hash(MASTER, Bytes.four(turn));
    }

    /** The d of a KEY that was made at a TURN. */
    static byte[] secret(int turn) {
        return PlainCurve.scalar(fresh(turn));
    }

    static byte[] id(int turn) {
        return Bytes.part(Bytes.hash(secret(turn)), 0, 16);
    }

    /** All bytes come on the tape, behind those that it has. */
    void write(byte[] bytes) {
        int before = fob.count(7);
        for (int at = 0; at < bytes.length; at += 20) {
            int[] numbers = new int[5];
            for (int i = 0; i < 20; i++) {
                int value = at + i < bytes.length ? bytes[at + i] & 255 : 0;
                numbers[i / 4] = numbers[i / 4] << 8 | value;
            }
            if (fob.feed(numbers[0], numbers[1], numbers[2], numbers[3], numbers[4]) < 0) {
                throw new IllegalArgumentException("the tape is full");
            }
        }
        fob.trim(before + bytes.length);
    }

    int send(int command, byte[] tape) {
        write(tape);
        return fob.send(command);
    }

    int send(int command, MapOf map) {
        return send(command, map.bytes());
    }

    byte[] out() {
        return out(0, fob.count(6));
    }

    byte[] out(int from, int n) {
        byte[] bytes = new byte[n];
        for (int i = 0; i < n; i++) {
            bytes[i] = told(fob.out(from + i));
        }
        return bytes;
    }

    /** All bytes of a KEY that one 'what' tells. */
    byte[] key(int k, int what) {
        byte[] bytes = new byte[0];
        for (int value = fob.key(k, what, 0); value != KeyFob.NONE; value = fob.key(k, what, bytes.length)) {
            bytes = Bytes.join(bytes, Bytes.of(told(value)));
        }
        return bytes;
    }

    private static byte told(int value) {
        if (value < 0 || value > 255) {
            throw new IllegalStateException(value + " is no byte");
        }
        return (byte) value;
    }

    /** All that count tells, to see that a refused call changed nothing. */
    String counts() {
        StringBuilder text = new StringBuilder();
        for (int what = 0; what < 10; what++) {
            text.append(what == 0 ? "" : " ").append(fob.count(what));
        }
        return text.toString();
    }

    /** The USERS of all KEYS, the one made first at the left. */
    String users() {
        StringBuilder text = new StringBuilder();
        for (int k = 0; fob.key(k, 1, 0) != KeyFob.NONE; k++) {
            text.append(k == 0 ? "" : " ");
            for (byte letter : key(k, 1)) {
                text.append((char) letter);
            }
        }
        return text.toString();
    }

    static MapOf makeMap(String house, String user) {
        return new MapOf().row(1, WORD).text(2, house).row(3, Bytes.text(user));
    }

    static MapOf getMap(String house) {
        return new MapOf().text(1, house).row(2, WORD);
    }

    int make(String house, String user) {
        fob.touch();
        return send(MAKE, makeMap(house, user));
    }

    /** A fob with KEYS of one HOUSE, a USER for each letter; the KEY at k was made at TURN k + 1. */
    static Desk with(String house, String users) {
        Desk desk = new Desk();
        for (char user : users.toCharArray()) {
            desk.make(house, String.valueOf(user));
        }
        return desk;
    }

    int get(String house) {
        fob.touch();
        return send(GET, getMap(house));
    }

    int setPin(byte[] pin) {
        return send(PIN, new MapOf().number(1, 2).row(3, pin));
    }

    int changePin(byte[] old, byte[] pin) {
        return send(PIN, new MapOf().number(1, 3).row(2, old).row(3, pin));
    }

    int tryPin(byte[] pin) {
        return send(PIN, new MapOf().number(1, 4).row(2, pin));
    }

    /** The TOKEN that kind 4 of PIN gives for the right PIN. */
    byte[] token(byte[] pin) {
        return tryPin(pin) == 0 ? out(4, 32) : new byte[32];
    }

    /** The right PROOF for WORD, while the TOKEN is the FRESH row of a TURN. */
    static byte[] proof(int turn) {
        return Bytes.proof(fresh(turn), WORD);
    }

    /** The power goes until TURN is this one. */
    void turnTo(int turn) {
        for (int now = fob.count(8); now < turn; now++) {
            fob.power();
        }
    }

    /** DATA of a KEY that was made at a TURN. */
    static byte[] madeData(String house, int turn, int flags) {
        return Bytes.join(Bytes.hash(Bytes.text(house)), Bytes.of(flags), new byte[4], id(turn),
                PlainCurve.point(secret(turn)));
    }

    /** OUT of a MAKE at a TURN. */
    static byte[] made(String house, int turn, int flags) {
        byte[] data = madeData(house, turn, flags);
        return new MapOf().row(1, data).row(2, PlainCurve.signature(secret(turn), Bytes.hash(data, WORD))).bytes();
    }

    /** OUT of an assertion by the KEY that was made at a TURN, without how many are FOUND. */
    static MapOf asserted(String house, String user, int turn, int flags, long counter, byte[] word) {
        byte[] data = Bytes.join(Bytes.hash(Bytes.text(house)), Bytes.of(flags), Bytes.four(counter));
        return new MapOf().row(1, id(turn)).row(2, data)
                .row(3, PlainCurve.signature(secret(turn), Bytes.hash(data, word))).row(4, Bytes.text(user));
    }

    static MapOf asserted(String house, String user, int turn, int flags, long counter) {
        return asserted(house, user, turn, flags, counter, WORD);
    }

    /** Whether the Java library takes a signature for right. */
    static boolean isSigned(byte[] message, byte[] point, byte[] signature) {
        try {
            AlgorithmParameters curve = AlgorithmParameters.getInstance("EC");
            curve.init(new ECGenParameterSpec("secp256r1"));
            ECPoint at = new ECPoint(new BigInteger(1, Bytes.part(point, 0, 32)),
                    new BigInteger(1, Bytes.part(point, 32, 32)));
            ECPublicKeySpec spec = new ECPublicKeySpec(at, curve.getParameterSpec(ECParameterSpec.class));
            Signature checker = Signature.getInstance("SHA256withECDSAinP1363Format");
            checker.initVerify(KeyFactory.getInstance("EC").generatePublic(spec));
            checker.update(message);
            return checker.verify(signature);
        } catch (GeneralSecurityException e) {
            throw new IllegalStateException(e);
        }
    }
}
