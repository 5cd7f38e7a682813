/** Promise 13. */
public final class RolloverTest {
    private static final int OLD = 10807;
    private static final int NEW = 16637;

    public static void main(String[] args) {
        theKeyIsChanged();
        whatIsNoKey();
        theSecondSignatureIsWrong();
        anAccountHasIt();
        whatIsLookedAtFirst();
        Check.end();
    }

    private static Client scene() {
        Client c = new Client(121);
        c.open(OLD);
        c.open(12317);
        return c;
    }

    private static int call(Client c, int key, int sig2) {
        int nonce = c.x.nonce();
        return c.x.rollover(0, nonce, key, c.sign(0, 7, 0, nonce, key, 0), sig2);
    }

    private static void theKeyIsChanged() {
        Client c = scene();
        Check.due("the key before", c.rollover(0, NEW), OLD);
        Check.due("the key now", c.keyOf(0), NEW);
        Check.due("the other's key", c.keyOf(1), 12317);
        int nonce = c.x.nonce();
        int old = Sums.sign(Sums.digest(2, 0, nonce, 1, 5), OLD);
        Check.refuses("signed under the key before", UnsupportedOperationException.class,
                () -> c.x.order(0, nonce, 1, 5, old));
        Check.due("signed under the key now", c.order(0, 1, 5), 0);
        Check.due("a new account with the key before", c.open(OLD), 2);
        Check.due("the key now finds the account", c.open(NEW), 0);
        Check.due("the highest key", c.rollover(0, 32767), NEW);
        Check.due("and on", c.rollover(0, NEW), 32767);
    }

    /** "key is none" */
    private static void whatIsNoKey() {
        Client c = scene();
        for (int key : new int[] {999, 32768, 0, -1, Integer.MAX_VALUE, Integer.MIN_VALUE}) {
            Check.refuses("key " + key, IllegalArgumentException.class, () -> call(c, key, 0));
        }
        Check.due("the key stays", c.keyOf(0), OLD);
    }

    /** "sig2 is not right under it for the same digest" */
    private static void theSecondSignatureIsWrong() {
        Client c = scene();
        int nonce = c.x.nonce();
        int d = Sums.digest(7, 0, nonce, NEW, 0);
        int sig = Sums.sign(d, OLD);
        int right = Sums.sign(d, NEW);
        Check.refuses("one too high", UnsupportedOperationException.class,
                () -> c.x.rollover(0, nonce, NEW, sig, (right + 1) % NEW));
        Check.refuses("the nonce is used up", IllegalArgumentException.class,
                () -> c.x.rollover(0, nonce, NEW, sig, right));
        Check.refuses("below 0", UnsupportedOperationException.class, () -> call(c, NEW, -1));
        Check.refuses("the key itself", UnsupportedOperationException.class,
                () -> call(c, NEW, NEW));
        Check.refuses("the signature under the key before", UnsupportedOperationException.class,
                () -> underOldKey(c));
        Check.refuses("right but for its bounds", UnsupportedOperationException.class,
                () -> aboveBounds(c));
        Check.due("the key stays", c.keyOf(0), OLD);
    }

    private static int underOldKey(Client c) {
        int nonce = c.x.nonce();
        int sig = c.sign(0, 7, 0, nonce, NEW, 0);
        return c.x.rollover(0, nonce, NEW, sig, sig);
    }

    private static int aboveBounds(Client c) {
        int nonce = c.x.nonce();
        int d = Sums.digest(7, 0, nonce, NEW, 0);
        return c.x.rollover(0, nonce, NEW, Sums.sign(d, OLD), Sums.sign(d, NEW) + NEW);
    }

    /** "an account has it", be it CLOSED or the very account. */
    private static void anAccountHasIt() {
        Client c = scene();
        Check.refuses("another's", IllegalStateException.class, () -> c.rollover(0, 12317));
        Check.refuses("its own", IllegalStateException.class, () -> c.rollover(0, OLD));
        c.close(1);
        Check.refuses("a closed one's", IllegalStateException.class, () -> c.rollover(0, 12317));
        Check.due("the key stays", c.keyOf(0), OLD);
        Check.due("no nonce is out", c.x.there(3), 0);
    }

    private static void whatIsLookedAtFirst() {
        Client c = scene();
        Check.refuses("no key, before the second signature", IllegalArgumentException.class,
                () -> call(c, 999, -1));
        Check.refuses("the second signature, before who has it",
                UnsupportedOperationException.class, () -> call(c, 12317, -1));
    }
}
