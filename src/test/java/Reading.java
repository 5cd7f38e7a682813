import java.math.BigInteger;
import java.nio.BufferUnderflowException;
import java.nio.ByteBuffer;
import java.util.ArrayList;
import java.util.Arrays;
import java.util.List;

/**
 * Reads a text as a request, as loosely as it goes, and holds it for one only if it comes out the
 * same when it is written again: a way to the strict coding that the program does not go.
 */
final class Reading {
    final int key;
    final int names;

    private Reading(int key, int names) {
        this.key = key;
        this.names = names;
    }

    /** What a request tells, or null for a text that is none. */
    static Reading of(byte[] text) {
        try {
            return read(text);
        } catch (BufferUnderflowException e) {
            return null;
        }
    }

    private static Reading read(byte[] text) {
        ByteBuffer left = ByteBuffer.wrap(text);
        left.getShort();
        int key = number(left);
        left.get();
        int end = left.get() + left.position();
        List<Integer> told = new ArrayList<>();
        while (left.position() < end) {
            told.add(number(left));
        }
        int sig = number(left);
        int[] names = told.stream().mapToInt(Integer::intValue).toArray();
        boolean same = Arrays.equals(text, Sums.request(key, sig, names));
        return same && areNames(names) && isSigned(key, Sums.sum(names), sig)
                ? new Reading(key, Sums.sum(names))
                : null;
    }

    private static int number(ByteBuffer left) {
        left.get();
        byte[] contents = new byte[left.get() & 0xFF];
        left.get(contents);
        return new BigInteger(1, contents).intValue();
    }

    private static boolean areNames(int[] names) {
        int[] ascending = Arrays.stream(names).sorted().distinct().toArray();
        return names.length > 0
                && Arrays.equals(names, ascending)
                && names[0] >= 0
                && names[names.length - 1] <= 15;
    }

    private static boolean isSigned(int key, int names, int sig) {
        return key >= 1000
                && key <= 32767
                && sig >= 0
                && sig < key
                && Sums.raised(sig, key) == Sums.digest(9, key, names) % key;
    }
}
