import java.util.Arrays;

/** What a request is (Terms), as finish looks at it. */
public final class RequestTest {
    private static final int KEY = 16637;

    public static void main(String[] args) {
        sound("one name", 1, Sums.request(KEY, 0));
        sound("the last name", 32768, Sums.request(KEY, 15));
        sound("four names", 33345, Sums.request(KEY, 0, 6, 9, 15));
        sound("the highest key", 2, Sums.request(32767, 1));
        sound("a low key", 2, Sums.request(1001, 1));
        signaturesOfEachLength();
        bytesThatAreWrong();
        numbersThatAreWrong();
        namesThatAreWrong();
        lengthsThatAreWrong();
        keysThatAreNone();
        signaturesThatAreWrong();
        Check.end();
    }

    private static Client ready(int names) {
        Client c = new Client(81);
        c.open(10807);
        c.ready(0, names, 50);
        return c;
    }

    private static void sound(String what, int names, byte[] text) {
        Client c = ready(names);
        c.text(text);
        Check.answers(what, 0, () -> c.finish(0, 0));
    }

    private static void unsound(String what, int names, byte[] text) {
        Client c = ready(names);
        c.text(text);
        Check.refuses(what, IllegalArgumentException.class, () -> c.finish(0, 0));
    }

    /** From 128 on the first byte needs a 0 before it, from 256 on not any more. */
    private static void signaturesOfEachLength() {
        withSignature(127, new int[][] {{127}}, new int[][] {{0, 127}, {0, 0, 127}});
        withSignature(128, new int[][] {{0, 128}}, new int[][] {{128}, {0, 0, 128}});
        withSignature(255, new int[][] {{0, 255}}, new int[][] {{255}, {0, 0, 0, 255}});
        withSignature(256, new int[][] {{1, 0}}, new int[][] {{0, 1, 0}, {1, 0, 0}});
        withSignature(0, new int[][] {{0}}, new int[][] {{}, {0, 0}});
    }

    private static void withSignature(int sig, int[][] right, int[][] wrong) {
        int[] found = keyAndName(sig);
        byte[] key = Sums.number(found[0]);
        byte[] names = Sums.row(Sums.number(found[1]));
        for (int[] bytes : right) {
            sound("signature " + sig, 1 << found[1],
                    Sums.row(key, names, Sums.tagged(2, Sums.bytes(bytes))));
        }
        for (int[] bytes : wrong) {
            unsound("signature " + sig + " in " + bytes.length + " bytes", 1 << found[1],
                    Sums.row(key, names, Sums.tagged(2, Sums.bytes(bytes))));
        }
    }

    /** A key and a name whose request has this signature. */
    private static int[] keyAndName(int sig) {
        for (int key = 1000; key <= 32767; key++) {
            int raised = Sums.power(sig, 17, key);
            for (int name = 0; name < 16; name++) {
                if (Sums.digest(9, key, 1 << name) % key == raised) {
                    return new int[] {key, name};
                }
            }
        }
        throw new IllegalStateException("no request has the signature " + sig);
    }

    /** Every single byte of a request matters. */
    private static void bytesThatAreWrong() {
        byte[] right = Sums.request(KEY, 1, 2);
        for (int i = 0; i < right.length; i++) {
            for (int flip : new int[] {1, 128}) {
                byte[] wrong = right.clone();
                wrong[i] ^= (byte) flip;
                unsound("byte " + i + " wrong", 6, wrong);
            }
        }
        for (int length = 0; length < right.length; length++) {
            unsound("cut to " + length, 6, Arrays.copyOf(right, length));
        }
        unsound("something behind the row", 6, Sums.join(right, Sums.bytes(0)));
        unsound("a row behind the row", 6, Sums.join(right, right));
        unsound("a row round the row", 6, Sums.row(right));
        unsound("something before the row", 6, Sums.join(Sums.bytes(0), right));
    }

    private static byte[] built(byte[] key, byte[] names, byte[] sig, byte... behind) {
        return Sums.row(key, names, sig, behind);
    }

    /** "the length 1 to 4 of its contents", "as few as possible" */
    private static void numbersThatAreWrong() {
        int sig = Sums.sign(Sums.digest(9, KEY, 2), KEY);
        byte[] key = Sums.number(KEY);
        byte[] names = Sums.row(Sums.number(1));
        byte[] end = Sums.number(sig);
        sound("built by hand", 2, built(key, names, end));
        byte[] padded = Sums.tagged(2, Sums.bytes(0, KEY >> 8, KEY & 255));
        unsound("key with a 0 too many", 2, built(padded, names, end));
        byte[] twice = Sums.tagged(2, Sums.bytes(0, 0, KEY >> 8, KEY & 255));
        unsound("key with two 0 too many", 2, built(twice, names, end));
        byte[] thrice = Sums.tagged(2, Sums.bytes(0, 0, 0, KEY >> 8, KEY & 255));
        unsound("key of five bytes", 2, built(thrice, names, end));
        byte[] paddedSig = Sums.tagged(2, Sums.bytes(0, sig >> 8, sig & 255));
        unsound("signature with a 0 too many", 2, built(key, names, paddedSig));
        byte[] emptyName = Sums.row(Sums.tagged(2));
        unsound("name of no bytes", 2, built(key, emptyName, end));
        byte[] longName = Sums.row(Sums.tagged(2, Sums.bytes(0, 1)));
        unsound("name with a 0 too many", 2, built(key, longName, end));
        byte[] wrapped = Sums.tagged(2, Sums.bytes(1, 0, 0, 0, 1));
        unsound("name of five bytes that ends like name 1", 2, built(key, Sums.row(wrapped), end));
        byte[] wrappedSig = Sums.tagged(2, Sums.bytes(1, 0, 0, sig >> 8, sig & 255));
        unsound("signature of five bytes that ends right", 2, built(key, names, wrappedSig));
        unsound("a number too many", 2, built(key, names, end, Sums.number(1)));
        unsound("no signature", 2, Sums.row(key, names));
        unsound("no names", 2, Sums.row(key, end));
        unsound("no key", 2, Sums.row(names, end));
        unsound("names behind the signature", 2, Sums.row(key, end, names));
        unsound("another tag for a number", 2, built(Sums.tagged(3, Sums.bytes(64, 253)), names, end));
        unsound("another tag for the row", 2, built(key, Sums.tagged(49, Sums.number(1)), end));
    }

    /** "one or more numbers, the names, each greater than the one before" */
    private static void namesThatAreWrong() {
        int[][] wrong = {{2, 1}, {1, 1}, {1, 2, 2}, {1, 2, 1}, {1, 2, 16}, {1, 2, 33}, {1, 258}};
        for (int[] names : wrong) {
            int sig = Sums.sign(Sums.digest(9, KEY, 6), KEY);
            unsound("names of " + names.length, 6, Sums.request(KEY, sig, names));
        }
        int none = Sums.sign(Sums.digest(9, KEY, 0), KEY);
        unsound("no name", 1, Sums.request(KEY, none, new int[0]));
        int[] all = {0, 1, 2, 3, 4, 5, 6, 7, 8, 9, 10, 11, 12, 13, 14, 15};
        unsound("all names", 15, Sums.request(KEY, all));
        unsound("name 32, which is not 0", 1,
                Sums.request(KEY, Sums.sign(Sums.digest(9, KEY, 1), KEY), new int[] {32}));
    }

    /** "A LENGTH is one byte, 0 to 127, or for 128 to 255 the byte 129 and then the length." */
    private static void lengthsThatAreWrong() {
        byte[] right = Sums.request(KEY, 1);
        byte[] contents = Arrays.copyOfRange(right, 2, right.length);
        int length = contents.length;
        unsound("a short length told as a long one", 2,
                Sums.join(Sums.bytes(48, 129, length), contents));
        unsound("a length of 130", 2, Sums.join(Sums.bytes(48, 130, 0, length), contents));
        unsound("a length of 128", 2, Sums.join(Sums.bytes(48, 128), contents));
        unsound("a length of 128 told right", 2, Sums.join(Sums.bytes(48, 129, 128), contents));
        unsound("one too few", 2, Sums.join(Sums.bytes(48, length - 1), contents));
        unsound("one too many", 2, Sums.join(Sums.bytes(48, length + 1), contents));
        byte[] key = Sums.number(KEY);
        byte[] sig = Sums.number(Sums.sign(Sums.digest(9, KEY, 2), KEY));
        unsound("the inner row reaches over the signature", 2,
                Sums.row(key, Sums.bytes(48, 3 + sig.length, 2, 1, 1), sig));
        unsound("the inner row ends within a name", 2,
                Sums.row(key, Sums.bytes(48, 2, 2, 1, 1), sig));
        unsound("the inner row reaches over the outer one", 2,
                Sums.row(key, Sums.bytes(48, 90, 2, 1, 1), sig));
        unsound("a name's length told as a long one", 2,
                Sums.row(key, Sums.bytes(48, 4, 2, 129, 1, 1), sig));
    }

    /** "a number, the key n" */
    private static void keysThatAreNone() {
        for (int key : new int[] {0, 1, 999, 32768, 65537, 1 << 24, Integer.MAX_VALUE}) {
            int sig = key < 1 || key > 70000 ? 0 : Math.max(0, Sums.sign(Sums.digest(9, key, 2), key));
            unsound("key " + key, 2, Sums.request(key, sig, new int[] {1}));
        }
    }

    /** "a signature that is right under n for the digest of three ints" */
    private static void signaturesThatAreWrong() {
        int right = Sums.sign(Sums.digest(9, KEY, 2), KEY);
        int[] wrong = {
            0, right - 1, right + 1, right + KEY, Sums.sign(Sums.digest(9, KEY, 2, 0, 0), KEY),
            Sums.sign(Sums.digest(8, KEY, 2), KEY), Sums.sign(Sums.digest(9, KEY, 1), KEY)
        };
        for (int sig : wrong) {
            unsound("signature " + sig, 2, Sums.request(KEY, sig, new int[] {1}));
        }
    }
}
