import java.util.Random;

/** Promise 4. */
public final class DigestTest {
    private static final ChallengeAuthority X = new ChallengeAuthority(1);

    public static void main(String[] args) {
        Check.due("digest(1, 2, 3, 4, 5)", X.digest(1, 2, 3, 4, 5), 1089553570);
        Check.due("digest of zeros", X.digest(0, 0, 0, 0, 0), 0);
        int[] some = {0, 1, -1, 255, 65536, -32768, Integer.MAX_VALUE, Integer.MIN_VALUE};
        for (int x : some) {
            same(x, 0, 0, 0, 0);
            same(0, x, 0, 0, 0);
            same(0, 0, x, 0, 0);
            same(0, 0, 0, x, 0);
            same(0, 0, 0, 0, x);
            same(x, -x, x + 1, ~x, 7);
        }
        Random random = new Random(4);
        for (int i = 0; i < 300; i++) {
            same(random.nextInt(), random.nextInt(), random.nextInt(), random.nextInt(), i);
        }
        Check.end();
    }

    private static void same(int a, int b, int c, int d, int e) {
        String call = "digest(" + a + ", " + b + ", " + c + ", " + d + ", " + e + ")";
        Check.due(call, X.digest(a, b, c, d, e), Sums.digest(a, b, c, d, e));
    }
}
