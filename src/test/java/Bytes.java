import java.nio.charset.StandardCharsets;
import java.security.GeneralSecurityException;
import java.security.MessageDigest;
import java.util.Arrays;
import javax.crypto.Mac;
import javax.crypto.spec.SecretKeySpec;

/** Bytes for tests, and what the Java library makes of them. */
final class Bytes {
    private Bytes() {
    }

    /** Bytes written as numbers 0 .. 255. */
    static byte[] of(int... values) {
        byte[] bytes = new byte[values.length];
        for (int i = 0; i < values.length; i++) {
            bytes[i] = (byte) values[i];
        }
        return bytes;
    }

    /** N bytes that go up by 7 from a first one. */
    static byte[] run(int first, int n) {
        byte[] bytes = new byte[n];
        for (int i = 0; i < n; i++) {
            bytes[i] = (byte) (first + 7 * i);
        }
        return bytes;
    }

    static byte[] text(String text) {
        return text.getBytes(StandardCharsets.ISO_8859_1);
    }

    static byte[] four(long number) {
        return of((int) (number >> 24), (int) (number >> 16), (int) (number >> 8), (int) number);
    }

    /** A number as a row of 32 bytes. */
    static byte[] wide(long number) {
        return join(new byte[24], four(number >> 32), four(number));
    }

    static byte[] join(byte[]... parts) {
        byte[] all = new byte[0];
        for (byte[] part : parts) {
            int at = all.length;
            all = Arrays.copyOf(all, at + part.length);
            System.arraycopy(part, 0, all, at, part.length);
        }
        return all;
    }

    static byte[] part(byte[] bytes, int from, int n) {
        return Arrays.copyOfRange(bytes, from, from + n);
    }

    /** The same bytes with one bit as the other one, 0 being the highest of the first byte. */
    static byte[] turned(byte[] bytes, int bit) {
        byte[] other = bytes.clone();
        other[bit / 8] ^= (byte) (128 >> bit % 8);
        return other;
    }

    static byte[] hash(byte[]... parts) {
        try {
            return MessageDigest.getInstance("SHA-256").digest(join(parts));
        } catch (GeneralSecurityException e) {
            throw new IllegalStateException(e);
        }
    }

    static byte[] proof(byte[] token, byte[] word) {
        try {
            Mac mac = Mac.getInstance("HmacSHA256");
            mac.init(new SecretKeySpec(token, "HmacSHA256"));
            return part(mac.doFinal(word), 0, 16);
        } catch (GeneralSecurityException e) {
            throw new IllegalStateException(e);
        }
    }

    static String hex(byte[] bytes) {
        StringBuilder text = new StringBuilder();
        for (byte b : bytes) {
            text.append(String.format("%02X", b & 255));
        }
        return text.toString();
    }
}
