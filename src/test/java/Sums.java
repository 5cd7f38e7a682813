import java.io.ByteArrayOutputStream;
import java.math.BigInteger;
import java.util.Arrays;
import java.util.HashMap;
import java.util.Map;

/** What the document's terms ask for, reckoned apart from the program. */
final class Sums {
    /** Keys under which every number has exactly one signature. */
    static final int[] KEYS = {10807, 12317, 1147, 16637, 32767, 1001, 1003, 1007};

    private static final BigInteger FACTOR = new BigInteger("9E3779B97F4A7C15", 16);
    private static final BigInteger WRAP = BigInteger.ONE.shiftLeft(64);

    /** Signing by trying is dear, so the signatures under a key are found once. */
    private static final Map<Integer, int[]> SIGNATURES = new HashMap<>();

    private Sums() {}

    static int digest(int... ints) {
        BigInteger h = BigInteger.ZERO;
        for (int x : ints) {
            h = h.xor(BigInteger.valueOf(x).mod(WRAP)).multiply(FACTOR).mod(WRAP);
            h = h.xor(h.shiftRight(29));
        }
        return h.shiftRight(33).intValueExact();
    }

    static int power(int b, int e, int n) {
        BigInteger modulus = BigInteger.valueOf(n);
        return BigInteger.valueOf(b).modPow(BigInteger.valueOf(e), modulus).intValueExact();
    }

    /** The lowest signature of d that is right under the number n, or -1. */
    static int sign(int d, int n) {
        return SIGNATURES.computeIfAbsent(n, Sums::signaturesUnder)[d % n];
    }

    /** For each rest d modulo n the lowest s whose 17th power it is, or -1. */
    private static int[] signaturesUnder(int n) {
        int[] lowest = new int[n];
        Arrays.fill(lowest, -1);
        for (int s = n - 1; s >= 0; s--) {
            lowest[raised(s, n)] = s;
        }
        return lowest;
    }

    /** s^17 modulo n. */
    static int raised(int s, int n) {
        long product = 1;
        for (int i = 0; i < 17; i++) {
            product = product * s % n;
        }
        return (int) product;
    }

    /** The bytes of a request with a right signature. */
    static byte[] request(int key, int... names) {
        return request(key, sign(digest(9, key, sum(names)), key), names);
    }

    static byte[] request(int key, int sig, int[] names) {
        byte[][] numbers = new byte[names.length][];
        for (int i = 0; i < names.length; i++) {
            numbers[i] = number(names[i]);
        }
        return row(number(key), row(numbers), number(sig));
    }

    static byte[] row(byte[]... parts) {
        return tagged(48, join(parts));
    }

    static byte[] number(int value) {
        return tagged(2, BigInteger.valueOf(value).toByteArray());
    }

    static byte[] tagged(int tag, byte... contents) {
        return join(bytes(tag, contents.length), contents);
    }

    static byte[] bytes(int... values) {
        byte[] made = new byte[values.length];
        for (int i = 0; i < values.length; i++) {
            made[i] = (byte) values[i];
        }
        return made;
    }

    static byte[] join(byte[]... parts) {
        ByteArrayOutputStream all = new ByteArrayOutputStream();
        for (byte[] part : parts) {
            all.writeBytes(part);
        }
        return all.toByteArray();
    }

    static int sum(int... names) {
        int sum = 0;
        for (int name : names) {
            sum += 1 << name;
        }
        return sum;
    }
}
