import java.math.BigInteger;

/** The curve and its signatures as the document tells them, with the Java library's big numbers. */
final class PlainCurve {
    static final BigInteger P = new BigInteger(
            "FFFFFFFF00000001000000000000000000000000FFFFFFFFFFFFFFFFFFFFFFFF", 16);
    static final BigInteger B = new BigInteger(
            "5AC635D8AA3A93E7B3EBBD55769886BC651D06B0CC53B0F63BCE3C3E27D2604B", 16);
    static final BigInteger N = new BigInteger(
            "FFFFFFFF00000000FFFFFFFFFFFFFFFFBCE6FAADA7179E84F3B9CAC2FC632551", 16);
    static final BigInteger[] G = {
        new BigInteger("6B17D1F2E12C4247F8BCE6E563A440F277037D812DEB33A0F4A13945D898C296", 16),
        new BigInteger("4FE342E2FE1A7F9B8EE7EB4A7C0F9E162BCE33576B315ECECBB6406837BF51F5", 16)};
    private static final BigInteger THREE = BigInteger.valueOf(3);

    private PlainCurve() {
    }

    static BigInteger number(byte[] row) {
        return new BigInteger(1, row);
    }

    static byte[] row32(BigInteger number) {
        byte[] bytes = Bytes.join(new byte[32], number.toByteArray());
        return Bytes.part(bytes, bytes.length - 32, 32);
    }

    /** 1 + (a row modulo (n - 1)), as a row. */
    static byte[] scalar(byte[] seed) {
        return row32(number(seed).mod(N.subtract(BigInteger.ONE)).add(BigInteger.ONE));
    }

    /** None is null. */
    static BigInteger[] add(BigInteger[] a, BigInteger[] b) {
        if (a == null || b == null) {
            return a == null ? b : a;
        }
        if (a[0].equals(b[0]) && a[1].add(b[1]).mod(P).signum() == 0) {
            return null;
        }
        BigInteger slope = a[0].equals(b[0])
                ? a[0].multiply(a[0]).multiply(THREE).subtract(THREE).multiply(a[1].add(a[1]).modInverse(P))
                : b[1].subtract(a[1]).multiply(b[0].subtract(a[0]).modInverse(P));
        BigInteger x = slope.multiply(slope).subtract(a[0]).subtract(b[0]).mod(P);
        return new BigInteger[] {x, slope.multiply(a[0].subtract(x)).subtract(a[1]).mod(P)};
    }

    static BigInteger[] times(BigInteger number, BigInteger[] point) {
        BigInteger[] sum = null;
        for (int i = number.bitLength() - 1; i >= 0; i--) {
            sum = add(sum, sum);
            if (number.testBit(i)) {
                sum = add(sum, point);
            }
        }
        return sum;
    }

    /** X and y of d times G, as a row of 64 bytes. */
    static byte[] point(byte[] d) {
        BigInteger[] point = times(number(d), G);
        return Bytes.join(row32(point[0]), row32(point[1]));
    }

    /** The k of TO SIGN for the first i. */
    static BigInteger nonce(byte[] d, byte[] hash, int i) {
        return number(scalar(Bytes.hash(d, hash, Bytes.of(i))));
    }

    static byte[] signature(byte[] d, byte[] hash) {
        BigInteger h = number(hash);
        BigInteger r = BigInteger.ZERO;
        BigInteger s = BigInteger.ZERO;
        for (int i = 0; r.signum() == 0 || s.signum() == 0; i++) {
            BigInteger k = nonce(d, hash, i);
            r = times(k, G)[0].mod(N);
            s = h.add(r.multiply(number(d))).multiply(k.modInverse(N)).mod(N);
        }
        return Bytes.join(row32(r), row32(s));
    }

    static boolean isRight(byte[] signature, byte[] hash, byte[] point) {
        BigInteger r = number(Bytes.part(signature, 0, 32));
        BigInteger s = number(Bytes.part(signature, 32, 32));
        if (r.signum() == 0 || s.signum() == 0 || r.compareTo(N) >= 0 || s.compareTo(N) >= 0) {
            return false;
        }
        BigInteger w = s.modInverse(N);
        BigInteger[] owner = {number(Bytes.part(point, 0, 32)), number(Bytes.part(point, 32, 32))};
        BigInteger[] sum = add(times(number(hash).multiply(w).mod(N), G), times(r.multiply(w).mod(N), owner));
        return sum != null && sum[0].mod(N).equals(r);
    }
}
