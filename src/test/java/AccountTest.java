/** Promise 5; KeyTest and RefusedCallsTest look at keys and at the order of refusals. */
public final class AccountTest {
    public static void main(String[] args) {
        numbersGoUpAndStay();
        whatIsLookedAtFirst();
        signaturesOfOtherThingsAreRefused();
        aClosedAccountIsRefused();
        aSeventhIsRefused();
        theNonceIsUsedUpByALateRefusal();
        Check.end();
    }

    private static int sign(int key, int nonce) {
        return Sums.sign(Sums.digest(1, key, nonce, 0, 0), key);
    }

    /** "a new one if there is none" */
    private static void numbersGoUpAndStay() {
        Client c = new Client(3);
        Check.due("first account", c.open(10807), 0);
        Check.due("second account", c.open(12317), 1);
        Check.due("first account again", c.open(10807), 0);
        Check.due("how many accounts", c.x.there(0), 2);
        Check.due("nonces that are out", c.x.there(3), 0);
        Check.due("key of the first", c.keyOf(0), 10807);
        Check.due("key of the second", c.keyOf(1), 12317);
        Check.due("state of a new account", c.x.state(0, 1), 0);
        Check.due("orders of a new account", c.x.detail(0, 1, 1), 0);
    }

    private static void whatIsLookedAtFirst() {
        Client c = new Client(5);
        int nonce = c.x.nonce();
        int gone = nonce + 1;
        int right = sign(1147, nonce);
        Check.refuses("no key, before the signature", IllegalArgumentException.class,
                () -> c.x.account(999, gone, -1));
        Check.refuses("wrong signature, before the nonce", UnsupportedOperationException.class,
                () -> c.x.account(1147, gone, right));
        Check.refuses("right signature, nonce not out", IllegalArgumentException.class,
                () -> c.x.account(1147, gone, sign(1147, gone)));
        Check.due("the nonce is still out", c.x.there(3), 1);
        Check.due("no account was made", c.x.there(0), 0);
        Check.answers("right signature", 0, () -> c.x.account(1147, nonce, right));
        Check.refuses("the same again", IllegalArgumentException.class,
                () -> c.x.account(1147, nonce, right));
    }

    private static void signaturesOfOtherThingsAreRefused() {
        Client c = new Client(6);
        int nonce = c.x.nonce();
        int right = sign(1147, nonce);
        int[][] others = {
            {2, 1147, nonce, 0, 0}, {1, 1148, nonce, 0, 0}, {1, 1147, nonce + 1, 0, 0},
            {1, 1147, nonce, 1, 0}, {1, 1147, nonce, 0, 1}, {1, 1147, nonce}
        };
        for (int[] other : others) {
            int sig = Sums.sign(Sums.digest(other), 1147);
            Check.refuses("signature of something else", UnsupportedOperationException.class,
                    () -> c.x.account(1147, nonce, sig));
        }
        for (int sig : new int[] {right + 1147, right - 1147, -1, 1147, Integer.MIN_VALUE}) {
            Check.refuses("signature out of bounds", UnsupportedOperationException.class,
                    () -> c.x.account(1147, nonce, sig));
        }
        Check.answers("the right one", 0, () -> c.x.account(1147, nonce, right));
    }

    /** "the account with this key is CLOSED" */
    private static void aClosedAccountIsRefused() {
        Client c = new Client(7);
        c.open(1147);
        c.close(0);
        Check.refuses("account with the key of a closed one", IllegalStateException.class,
                () -> c.open(1147));
        Check.due("the nonce was used up", c.x.there(3), 0);
        Check.due("another key", c.open(10807), 1);
    }

    /** "or there would be a seventh" */
    private static void aSeventhIsRefused() {
        Client c = new Client(8);
        for (int k = 0; k < 6; k++) {
            Check.due("account " + k, c.open(Sums.KEYS[k]), k);
        }
        Check.refuses("a seventh account", IllegalStateException.class,
                () -> c.open(Sums.KEYS[6]));
        Check.due("accounts", c.x.there(0), 6);
        Check.due("the sixth is still found", c.open(Sums.KEYS[5]), 5);
        Check.due("a key that was left is free", c.rollover(0, Sums.KEYS[6]), Sums.KEYS[0]);
        Check.refuses("but there is no room for it", IllegalStateException.class,
                () -> c.open(Sums.KEYS[0]));
        Check.due("the new key finds the account", c.open(Sums.KEYS[6]), 0);
    }

    private static void theNonceIsUsedUpByALateRefusal() {
        Client c = new Client(9);
        c.open(1147);
        c.close(0);
        int nonce = c.x.nonce();
        int sig = sign(1147, nonce);
        Check.refuses("closed", IllegalStateException.class, () -> c.x.account(1147, nonce, sig));
        Check.refuses("used up", IllegalArgumentException.class, () -> c.x.account(1147, nonce, sig));
    }
}
