import java.security.AlgorithmParameters;
import java.security.GeneralSecurityException;
import java.security.KeyFactory;
import java.security.Signature;
import java.security.spec.ECGenParameterSpec;
import java.security.spec.ECParameterSpec;
import java.security.spec.ECPoint;
import java.security.spec.ECPublicKeySpec;
import java.math.BigInteger;

/** A fob with calls that tests make often. */
final class Desk {
    static final int MAKE = 1, GET = 2, PIN = 6, RESET = 7, NEXT = 8;
    static final byte[] WORD = Bytes.run(3, 32);
    static final byte[] PIN_A = Bytes.run(101, 16);
    static final byte[] PIN_B = Bytes.run(102, 16);

    final KeyFob fob = new KeyFob();

    /** All bytes come on the tape, behind those that it has. */
    void write(byte[] bytes) {
        int before = fob.count(7);
        for (int at = 0; at < bytes.length; at += 20) {
            int[] numbers = new int[5];
            for (int i = 0; i < 20; i++) {
                int value = at + i < bytes.length ? bytes[at + i] & 255 : 0;
                numbers[i / 4] = numbers[i / 4] << 8 | value;
            }
            if (fob.feed(numbers[0], numbers[1], numbers[2], numbers[3], numbers[4]) < 0) {
                throw new IllegalArgumentException("the tape is full");
            }
        }
        fob.trim(before + bytes.length);
    }

    int send(int command, byte[] tape) {
        write(tape);
        return fob.send(command);
    }

    int send(int command, MapOf map) {
        return send(command, map.bytes());
    }

    byte[] out() {
        byte[] bytes = new byte[fob.count(6)];
        for (int i = 0; i < bytes.length; i++) {
            bytes[i] = (byte) fob.out(i);
        }
        return bytes;
    }

    byte[] key(int k, int what) {
        byte[] bytes = new byte[0];
        for (int i = 0; fob.key(k, what, i) >= 0; i++) {
            bytes = Bytes.join(bytes, Bytes.of(fob.key(k, what, i)));
        }
        return bytes;
    }

    static MapOf makeMap(String house, String user) {
        return new MapOf().row(1, WORD).text(2, house).row(3, Bytes.text(user));
    }

    static MapOf getMap(String house) {
        return new MapOf().text(1, house).row(2, WORD);
    }

    int make(String house, String user) {
        fob.touch();
        return send(MAKE, makeMap(house, user));
    }

    int get(String house) {
        fob.touch();
        return send(GET, getMap(house));
    }

    int setPin(byte[] pin) {
        return send(PIN, new MapOf().number(1, 2).row(3, pin));
    }

    int changePin(byte[] old, byte[] pin) {
        return send(PIN, new MapOf().number(1, 3).row(2, old).row(3, pin));
    }

    int tryPin(byte[] pin) {
        return send(PIN, new MapOf().number(1, 4).row(2, pin));
    }

    /** The TOKEN that kind 4 of PIN gives for the right PIN. */
    byte[] token(byte[] pin) {
        return tryPin(pin) == 0 ? Bytes.part(out(), 4, 32) : new byte[32];
    }

    /** Whether the Java library takes a signature for right. */
    static boolean isSigned(byte[] message, byte[] point, byte[] signature) {
        try {
            AlgorithmParameters curve = AlgorithmParameters.getInstance("EC");
            curve.init(new ECGenParameterSpec("secp256r1"));
            ECPoint at = new ECPoint(new BigInteger(1, Bytes.part(point, 0, 32)),
                    new BigInteger(1, Bytes.part(point, 32, 32)));
            ECPublicKeySpec spec = new ECPublicKeySpec(at, curve.getParameterSpec(ECParameterSpec.class));
            Signature checker = Signature.getInstance("SHA256withECDSAinP1363Format");
            checker.initVerify(KeyFactory.getInstance("EC").generatePublic(spec));
            checker.update(message);
            return checker.verify(signature);
        } catch (GeneralSecurityException e) {
            throw new IllegalStateException(e);
        }
    }
}
