/** Promise 3. */
public final class PowerTest {
    private static final ChallengeAuthority X = new ChallengeAuthority(1);

    public static void main(String[] args) {
        int[] bases = {0, 1, 2, 3, 999, 1000, 16386, 32766, 32767, 46341, Integer.MAX_VALUE};
        int[] exponents = {0, 1, 2, 3, 16, 17, 1 << 30, Integer.MAX_VALUE};
        int[] keys = {1000, 1147, 32766, 32767};
        for (int n : keys) {
            for (int b : bases) {
                same(b, exponents[b % exponents.length], n);
                same(b, 17, n);
                same(b, 0, n);
                same(b, Integer.MAX_VALUE, n);
            }
        }
        for (int e : exponents) {
            same(31, e, 12317);
        }
        for (int e : exponents) {
            refused(-1, e, 1147);
            refused(-1147, e, 1147);
            refused(Integer.MIN_VALUE, e, 1147);
        }
        for (int b : bases) {
            refused(b, -1, 1147);
            refused(b, Integer.MIN_VALUE, 1147);
        }
        refused(-1, -1, 1147);
        refused(-1, 1, 999);
        for (int n : new int[] {999, 32768, 1, 0, -1, -1147, Integer.MAX_VALUE, Integer.MIN_VALUE}) {
            refused(2, 2, n);
        }
        Check.end();
    }

    private static void same(int b, int e, int n) {
        Check.due("power(" + b + ", " + e + ", " + n + ")", X.power(b, e, n), Sums.power(b, e, n));
    }

    private static void refused(int b, int e, int n) {
        Check.answers("power(" + b + ", " + e + ", " + n + ")", -1, () -> X.power(b, e, n));
    }
}
