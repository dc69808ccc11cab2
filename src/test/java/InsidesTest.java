import java.lang.reflect.Constructor;
import java.lang.reflect.Method;
import java.math.BigInteger;
import java.util.Random;

/** Hash, numbers and points at edges that no run of calls can be made to reach. */
public final class InsidesTest {
    private static final BigInteger P = PlainCurve.P, N = PlainCurve.N;
    private static final BigInteger TOP = BigInteger.ONE.shiftLeft(256);
    private static final Due DUE = new Due();

    public static void main(String[] args) throws ReflectiveOperationException {
        hashes();
        Object signer = make("Signer");
        Object curve = held(signer, "curve");
        numbers(held(signer, "order"), N);
        numbers(held(curve, "field"), P);
        draws(held(signer, "order"));
        multiples(curve);
        sums(curve);
        verdicts();
        DUE.end();
    }

    private static Object make(String name) throws ReflectiveOperationException {
        Constructor<?> constructor = Class.forName("KeyFob$" + name).getDeclaredConstructor();
        constructor.setAccessible(true);
        return constructor.newInstance();
    }

    private static Object held(Object from, String name) throws ReflectiveOperationException {
        java.lang.reflect.Field field = from.getClass().getDeclaredField(name);
        field.setAccessible(true);
        return field.get(from);
    }

    private static Object call(Object on, String name, Object... with) throws ReflectiveOperationException {
        for (Method method : on.getClass().getDeclaredMethods()) {
            if (method.getName().equals(name) && method.getParameterCount() == with.length) {
                method.setAccessible(true);
                return method.invoke(on, with);
            }
        }
        throw new NoSuchMethodException(name);
    }

    private static void hashes() throws ReflectiveOperationException {
        Object hash = make("Hash");
        int[] into = new int[32];
        for (int n = 0; n <= 200; n++) {
            byte[] row = Bytes.run(n, n);
            call(hash, "begin");
            for (byte b : row) {
                call(hash, "put", (int) b);
            }
            call(hash, "end", (Object) into);
            DUE.is("HASH of " + n + " bytes", Bytes.of(into), Bytes.hash(row));
        }
    }

    private static long[] limbs(BigInteger number) {
        long[] limbs = new long[10];
        for (int i = 0; i < 9; i++) {
            limbs[i] = number.shiftRight(28 * i).longValue() & 0xFFFFFFF;
        }
        limbs[9] = number.shiftRight(252).longValueExact();
        return limbs;
    }

    private static BigInteger number(long[] limbs) {
        BigInteger sum = BigInteger.ZERO;
        for (int i = 9; i >= 0; i--) {
            sum = sum.shiftLeft(28).add(BigInteger.valueOf(limbs[i]));
        }
        return sum;
    }

    private static void isNumber(String what, long[] got, BigInteger want) {
        DUE.holds(what + " is " + number(got).toString(16) + ", due is " + want.toString(16), number(got).equals(want));
    }

    private static void numbers(Object field, BigInteger m) throws ReflectiveOperationException {
        Random random = new Random(5);
        BigInteger wide = BigInteger.ONE.shiftLeft(262).subtract(BigInteger.ONE);
        BigInteger[] edges = {BigInteger.ZERO, BigInteger.ONE, m.subtract(BigInteger.ONE), m, m.add(BigInteger.ONE),
            m.negate(), BigInteger.ONE.negate(), TOP.subtract(BigInteger.ONE), wide, wide.negate()};
        long[] to = new long[10];
        for (int i = 0; i < 400; i++) {
            BigInteger a = i < 100 ? edges[i / 10] : new BigInteger(262, random).subtract(new BigInteger(262, random));
            BigInteger b = i < 100 ? edges[i % 10] : new BigInteger(262, random).subtract(new BigInteger(262, random));
            BigInteger rest = BigInteger.ONE.shiftLeft(280).modInverse(m);
            call(field, "multiply", to, limbs(a), limbs(b));
            DUE.holds("a product", number(to).subtract(a.multiply(b).multiply(rest)).mod(m).signum() == 0);
            for (int j = 0; j < 9; j++) {
                DUE.holds("a limb below 2^28", to[j] >= 0 && to[j] < 1 << 28);
            }
            DUE.holds("a product near the modulus", number(to).abs().bitLength() <= 257);
            call(field, "plus", to, limbs(a), -3L, limbs(b));
            isNumber("a - 3 b", to, a.subtract(b.multiply(BigInteger.valueOf(3))));
            call(field, "enter", to, limbs(a));
            call(field, "leave", to, to);
            isNumber("a modulo the prime", to, a.mod(m));
            DUE.holds("its range", (Boolean) call(field, "isProper", (Object) to) == (a.mod(m).signum() != 0));
        }
        for (int i = 0; i < 20; i++) {
            BigInteger a = i == 0 ? BigInteger.ONE : i == 1 ? m.subtract(BigInteger.ONE) : new BigInteger(255, random);
            call(field, "enter", to, limbs(a));
            call(field, "invert", to, to);
            call(field, "leave", to, to);
            isNumber("1 / a", to, a.modInverse(m));
        }
        call(field, "invert", to, new long[10]);
        isNumber("1 / 0", to, BigInteger.ZERO);
        DUE.holds("the modulus is not proper", !(Boolean) call(field, "isProper", (Object) limbs(m)));
        DUE.holds("2^256 - 1 is not proper",
                !(Boolean) call(field, "isProper", (Object) limbs(TOP.subtract(BigInteger.ONE))));
    }

    private static void draws(Object order) throws ReflectiveOperationException {
        long[] to = new long[10];
        for (int i = -5; i <= 5; i++) {
            BigInteger[] near = {N.add(BigInteger.valueOf(i)), BigInteger.valueOf(5 + i),
                TOP.subtract(BigInteger.valueOf(6 + i))};
            for (BigInteger seed : near) {
                call(order, "draw", to, limbs(seed));
                isNumber("a draw from " + seed.toString(16), to,
                        PlainCurve.number(PlainCurve.scalar(PlainCurve.row32(seed))));
            }
        }
    }

    private static BigInteger[] flat(Object curve, Object point) throws ReflectiveOperationException {
        call(curve, "flatten", point);
        return new BigInteger[] {number((long[]) held(point, "x")), number((long[]) held(point, "y"))};
    }

    private static void isPoint(String what, BigInteger[] got, BigInteger[] want) {
        BigInteger x = want == null ? BigInteger.ZERO : want[0];
        BigInteger y = want == null ? BigInteger.ZERO : want[1];
        DUE.holds(what + " is the right point", got[0].equals(x) && got[1].equals(y));
    }

    private static void multiples(Object curve) throws ReflectiveOperationException {
        Object to = make("Point");
        Random random = new Random(6);
        for (int i = 0; i < 40; i++) {
            BigInteger number = i < 8 ? BigInteger.valueOf(i) : i < 14 ? N.subtract(BigInteger.valueOf(i - 8))
                    : i < 18 ? BigInteger.ONE.shiftLeft(64 * (i - 14)) : i == 18 ? TOP.subtract(BigInteger.ONE)
                    : new BigInteger(256, random);
            call(curve, "times", to, held(curve, "base"), limbs(number));
            isPoint(number.toString(16) + " times G", flat(curve, to), PlainCurve.times(number, PlainCurve.G));
        }
        Object[] comb = (Object[]) held(make("Signer"), "ownerComb");
        BigInteger[] q = PlainCurve.times(BigInteger.valueOf(77), PlainCurve.G);
        int[] row = new int[64];
        byte[] bytes = Bytes.join(PlainCurve.row32(q[0]), PlainCurve.row32(q[1]));
        for (int i = 0; i < 64; i++) {
            row[i] = bytes[i] & 255;
        }
        call(curve, "fill", comb, row);
        for (int i = 0; i < 10; i++) {
            BigInteger number = i < 3 ? BigInteger.valueOf(i) : i == 3 ? N : i == 4 ? N.subtract(BigInteger.ONE)
                    : new BigInteger(256, random);
            call(curve, "times", to, comb, limbs(number));
            isPoint(number.toString(16) + " times 77 G", flat(curve, to), PlainCurve.times(number, q));
        }
    }

    /** What check and forged say of signatures that the fob would not make itself. */
    private static void verdicts() throws ReflectiveOperationException {
        Desk desk = new Desk();
        desk.make("h", "u");
        int[] signature = (int[]) held(held(desk.fob.inner, "signer"), "signature");
        int[] right = signature.clone();
        BigInteger s = new BigInteger(1, Bytes.part(Bytes.of(right), 32, 32));
        int[] bits = {0, 1, 7, 8, 100, 255, 256, 263, 264, 400, 504, 510, 511};
        for (int bit : bits) {
            signature[bit / 8] ^= 128 >> bit % 8;
            DUE.is("check() with bit " + bit + " wrong", desk.fob.check(), 0);
            DUE.is("forged(" + bit + ") sets it right", desk.fob.forged(bit), 1);
            DUE.is("forged of another", desk.fob.forged(511 - bit), 0);
            System.arraycopy(right, 0, signature, 0, 64);
        }
        put(signature, 32, N.subtract(s));
        DUE.is("n - s is right too", desk.fob.check(), 1);
        BigInteger[] wrong = {BigInteger.ZERO, N, N.add(BigInteger.ONE), TOP.subtract(BigInteger.ONE)};
        for (BigInteger number : wrong) {
            System.arraycopy(right, 0, signature, 0, 64);
            put(signature, 32, number);
            DUE.is("s = " + number.toString(16), desk.fob.check(), 0);
            System.arraycopy(right, 0, signature, 0, 64);
            put(signature, 0, number);
            DUE.is("r = " + number.toString(16), desk.fob.check(), 0);
        }
        System.arraycopy(right, 0, signature, 0, 64);
        DUE.is("check()", desk.fob.check(), 1);
    }

    private static void put(int[] row, int from, BigInteger number) {
        byte[] bytes = PlainCurve.row32(number);
        for (int i = 0; i < 32; i++) {
            row[from + i] = bytes[i] & 255;
        }
    }

    private static void sums(Object curve) throws ReflectiveOperationException {
        BigInteger[] numbers = {BigInteger.ZERO, BigInteger.ONE, BigInteger.TWO, N.subtract(BigInteger.ONE),
            N.subtract(BigInteger.TWO), BigInteger.valueOf(12345)};
        Object base = held(curve, "base");
        for (BigInteger a : numbers) {
            for (BigInteger b : numbers) {
                Object p = make("Point");
                Object q = make("Point");
                call(curve, "times", p, base, limbs(a));
                call(curve, "times", q, base, limbs(b));
                call(curve, "add", p, p, q);
                isPoint(a.toString(16) + " + " + b.toString(16), flat(curve, p),
                        PlainCurve.times(a.add(b).mod(N), PlainCurve.G));
            }
        }
    }
}
