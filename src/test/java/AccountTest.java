/** Promise 5. */
public final class AccountTest {
    public static void main(String[] args) {
        numbersGoUpAndStay();
        keysHaveBounds();
        whatIsLookedAtFirst();
        signaturesOfOtherThingsAreRefused();
        theKeyItselfIsNoSignature();
        aClosedAccountIsRefused();
        aSeventhIsRefused();
        theNonceIsUsedUpByALateRefusal();
        Check.end();
    }

    private static int sign(int key, int nonce) {
        return Sums.sign(Sums.digest(1, key, nonce, 0, 0), key);
    }

    private static void numbersGoUpAndStay() {
        Client c = new Client(3);
        Check.due("first account", c.open(10807), 0);
        Check.due("second account", c.open(12317), 1);
        Check.due("first account again", c.open(10807), 0);
        Check.due("how many accounts", c.x.there(0), 2);
        Check.due("nonces that are out", c.x.there(3), 0);
        Check.due("key of the first", c.keyOf(0), 10807);
        Check.due("key of the second", c.keyOf(1), 12317);
        Check.due("state of a new account", c.x.state(0, 1), 0);
        Check.due("orders of a new account", c.x.detail(0, 1, 1), 0);
    }

    private static void keysHaveBounds() {
        Client c = new Client(4);
        for (int key : new int[] {999, 32768, 0, -1147, Integer.MAX_VALUE, Integer.MIN_VALUE}) {
            int nonce = c.x.nonce();
            Check.refuses("key " + key, IllegalArgumentException.class,
                    () -> c.x.account(key, nonce, 0));
        }
        Check.due("nonces still out", c.x.there(3), 6);
        Check.due("the highest key", c.open(32767), 0);
        Check.due("the lowest key", openLowest(c), 1);
    }

    /** Not every number has a signature under 1000, so nonces are drawn until one has. */
    private static int openLowest(Client c) {
        int nonce = c.x.nonce();
        while (sign(1000, nonce) < 0) {
            nonce = c.x.nonce();
        }
        return c.x.account(1000, nonce, sign(1000, nonce));
    }

    private static void whatIsLookedAtFirst() {
        Client c = new Client(5);
        int nonce = c.x.nonce();
        int gone = nonce + 1;
        int right = sign(1147, nonce);
        Check.refuses("no key, before the signature", IllegalArgumentException.class,
                () -> c.x.account(999, gone, -1));
        Check.refuses("wrong signature, before the nonce", UnsupportedOperationException.class,
                () -> c.x.account(1147, gone, right));
        Check.refuses("right signature, nonce not out", IllegalArgumentException.class,
                () -> c.x.account(1147, gone, sign(1147, gone)));
        Check.due("the nonce is still out", c.x.there(3), 1);
        Check.due("no account was made", c.x.there(0), 0);
        Check.answers("right signature", 0, () -> c.x.account(1147, nonce, right));
        Check.refuses("the same again", IllegalArgumentException.class,
                () -> c.x.account(1147, nonce, right));
    }

    private static void signaturesOfOtherThingsAreRefused() {
        Client c = new Client(6);
        int nonce = c.x.nonce();
        int right = sign(1147, nonce);
        int[][] others = {
            {2, 1147, nonce, 0, 0}, {1, 1148, nonce, 0, 0}, {1, 1147, nonce + 1, 0, 0},
            {1, 1147, nonce, 1, 0}, {1, 1147, nonce, 0, 1}, {1, 1147, nonce}
        };
        for (int[] other : others) {
            int sig = Sums.sign(Sums.digest(other), 1147);
            Check.refuses("signature of something else", UnsupportedOperationException.class,
                    () -> c.x.account(1147, nonce, sig));
        }
        for (int sig : new int[] {right + 1147, right - 1147, -1, 1147, Integer.MIN_VALUE}) {
            Check.refuses("signature out of bounds", UnsupportedOperationException.class,
                    () -> c.x.account(1147, nonce, sig));
        }
        Check.answers("the right one", 0, () -> c.x.account(1147, nonce, right));
    }

    /** Where 0 is right the key is too but for its size; the nonce, not out, is looked at later. */
    private static void theKeyItselfIsNoSignature() {
        ChallengeAuthority x = new ChallengeAuthority(6);
        int nonce = 0;
        while (Sums.digest(1, 1147, nonce, 0, 0) % 1147 != 0) {
            nonce++;
        }
        int met = nonce;
        Check.refuses("0 is right", IllegalArgumentException.class, () -> x.account(1147, met, 0));
        Check.refuses("the key is not", UnsupportedOperationException.class,
                () -> x.account(1147, met, 1147));
    }

    private static void aClosedAccountIsRefused() {
        Client c = new Client(7);
        c.open(1147);
        c.close(0);
        Check.refuses("account with the key of a closed one", IllegalStateException.class,
                () -> c.open(1147));
        Check.due("the nonce was used up", c.x.there(3), 0);
        Check.due("another key", c.open(10807), 1);
    }

    private static void aSeventhIsRefused() {
        Client c = new Client(8);
        for (int k = 0; k < 6; k++) {
            Check.due("account " + k, c.open(Sums.KEYS[k]), k);
        }
        Check.refuses("a seventh account", IllegalStateException.class,
                () -> c.open(Sums.KEYS[6]));
        Check.due("accounts", c.x.there(0), 6);
        Check.due("the sixth is still found", c.open(Sums.KEYS[5]), 5);
        Check.due("a key that was left is free", c.rollover(0, Sums.KEYS[6]), Sums.KEYS[0]);
        Check.refuses("but there is no room for it", IllegalStateException.class,
                () -> c.open(Sums.KEYS[0]));
        Check.due("the new key finds the account", c.open(Sums.KEYS[6]), 0);
    }

    private static void theNonceIsUsedUpByALateRefusal() {
        Client c = new Client(9);
        c.open(1147);
        c.close(0);
        int nonce = c.x.nonce();
        int sig = sign(1147, nonce);
        Check.refuses("closed", IllegalStateException.class, () -> c.x.account(1147, nonce, sig));
        Check.refuses("used up", IllegalArgumentException.class, () -> c.x.account(1147, nonce, sig));
    }
}
