import java.io.ByteArrayOutputStream;
import java.util.Arrays;
import java.util.Random;

/** What a request is (Terms): texts that are a little off, each compared with Reading. */
public final class RequestReadingTest {
    private static final int OWN_KEY = 10807;
    private static final int KEY = 16637;
    private static final int NAMES = 6;
    /** An object is used for at most 512 calls. */
    private static final int TEXTS_ON_AN_OBJECT = 30;

    private static Client c;
    private static int texts;
    private static int requests;

    public static void main(String[] args) {
        oneByteOff(Sums.request(KEY, 1, 2));
        oneByteOff(Sums.request(32767, 1, 2));
        builtAtRandom();
        Check.holds("some of them were requests", requests > 100);
        Check.end();
    }

    private static void look(byte[] text) {
        if (texts % TEXTS_ON_AN_OBJECT == 0) {
            c = ready();
        }
        texts++;
        c.text(text);
        Reading reading = Reading.of(text);
        String what = "the text " + Arrays.toString(text);
        if (reading != null && reading.names == NAMES && reading.key != OWN_KEY) {
            requests++;
            Check.answers(what, 0, () -> c.finish(0, 0));
            Check.answers("its key", reading.key, () -> c.x.detail(4, 0, 2));
            texts = 0;
        } else {
            Check.refuses(what, IllegalArgumentException.class, () -> c.finish(0, 0));
        }
    }

    private static Client ready() {
        Client made = new Client(82);
        made.open(OWN_KEY);
        made.ready(0, NAMES, 50);
        return made;
    }

    /** With another byte in each place, with a byte more, with a byte less, and as it is. */
    private static void oneByteOff(byte[] right) {
        for (int i = 0; i <= right.length; i++) {
            byte[] before = Arrays.copyOf(right, i);
            byte[] from = Arrays.copyOfRange(right, i, right.length);
            byte[] behind = Arrays.copyOfRange(right, Math.min(i + 1, right.length), right.length);
            for (int one = 0; one < 256; one++) {
                look(Sums.join(before, Sums.bytes(one), behind));
                look(Sums.join(before, Sums.bytes(one), from));
            }
            look(Sums.join(before, behind));
            look(before);
            look(from);
        }
    }

    /** Rows whose lengths are right, of numbers that are not always as short as they have to be. */
    private static void builtAtRandom() {
        Random random = new Random(5);
        for (int i = 0; i < 4000; i++) {
            int key = random.nextInt(9) == 0 ? random.nextInt(40000) : KEY;
            int[] names = names(random);
            int sum = 0;
            for (int name : names) {
                sum |= 1 << name;
            }
            int right = key == 0 ? 0 : Math.max(0, Sums.sign(Sums.digest(9, key, sum), key));
            int sig = random.nextInt(9) == 0 ? random.nextInt(40000) : right;
            look(tagged(random, 48, Sums.join(
                    number(random, key), row(random, names), number(random, sig))));
        }
    }

    private static int[] names(Random random) {
        if (random.nextInt(3) > 0) {
            return new int[] {1, 2};
        }
        int[] names = new int[random.nextInt(6)];
        for (int i = 0; i < names.length; i++) {
            names[i] = random.nextInt(4);
        }
        return names;
    }

    private static byte[] row(Random random, int[] names) {
        ByteArrayOutputStream numbers = new ByteArrayOutputStream();
        for (int name : names) {
            numbers.writeBytes(number(random, name));
        }
        return tagged(random, 48, numbers.toByteArray());
    }

    private static byte[] number(Random random, int value) {
        byte[] number = Sums.number(value);
        byte[] contents = Arrays.copyOfRange(number, 2, number.length);
        byte[] zeros = new byte[random.nextInt(20) == 0 ? 1 + random.nextInt(3) : 0];
        return tagged(random, 2, Sums.join(zeros, contents));
    }

    private static byte[] tagged(Random random, int tag, byte[] contents) {
        return random.nextInt(40) == 0
                ? Sums.join(Sums.bytes(tag, 129, contents.length), contents)
                : Sums.tagged(tag, contents);
    }
}
