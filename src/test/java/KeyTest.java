/** Terms: what KEYS are, and which signatures are RIGHT under one. */
public final class KeyTest {
    private static final int LOWEST = 1000;
    private static final int HIGHEST = 32767;
    private static final int CALLS_ON_AN_OBJECT = 500;

    public static void main(String[] args) {
        keysForPower();
        keysOfAccounts();
        keysToRollOverTo();
        everySignatureUnderTheLowestKey();
        theLowestAndTheHighestSignature();
        theLowestAndTheHighestSecondSignature();
        Check.end();
    }

    /** "KEYS are the numbers 1000 .. 32767." */
    private static void keysForPower() {
        ChallengeAuthority x = new ChallengeAuthority(1);
        Check.due("999 is no key", x.power(1, 1, LOWEST - 1), -1);
        Check.due("1000 is one", x.power(1, 1, LOWEST), 1);
        Check.due("32767 is one", x.power(1, 1, HIGHEST), 1);
        Check.due("32768 is no key", x.power(1, 1, HIGHEST + 1), -1);
    }

    private static void keysOfAccounts() {
        Check.refuses("999 is no key", Refusal.ARGUMENT, () -> new Client(1).open(LOWEST - 1));
        Check.answers("1000 is one", 0, () -> openedWith(LOWEST).x.state(0, 0));
        Check.answers("32767 is one", 0, () -> openedWith(HIGHEST).x.state(0, 0));
        Check.refuses("32768 is no key", Refusal.ARGUMENT, () -> new Client(1).open(HIGHEST + 1));
    }

    /** Not every number has a signature under every key, so seeds are tried until one has. */
    private static Client openedWith(int key) {
        int seed = 1;
        while (Sums.sign(Sums.digest(1, key, firstNonce(seed), 0, 0), key) < 0) {
            seed++;
        }
        Client c = new Client(seed);
        c.open(key);
        Check.due("the key of the account", c.keyOf(0), key);
        return c;
    }

    private static int firstNonce(int seed) {
        return new ChallengeAuthority(seed).nonce();
    }

    private static void keysToRollOverTo() {
        Client c = new Client(2);
        c.open(10807);
        Check.refuses("999 is no key", Refusal.ARGUMENT, () -> c.rollover(0, LOWEST - 1));
        Check.refuses("32768 is no key", Refusal.ARGUMENT, () -> c.rollover(0, HIGHEST + 1));
        Check.due("32767 is one", c.rollover(0, HIGHEST), 10807);
        int nonce = c.nonce();
        while (Sums.sign(Sums.digest(7, 0, nonce, LOWEST, 0), LOWEST) < 0) {
            nonce = c.nonce();
        }
        int d = Sums.digest(7, 0, nonce, LOWEST, 0);
        int met = nonce;
        Check.answers("1000 is one", HIGHEST, () -> c.x.rollover(
                0, met, LOWEST, Sums.sign(d, HIGHEST), Sums.sign(d, LOWEST)));
        Check.due("the key of the account", c.keyOf(0), LOWEST);
    }

    /**
     * "s^17 modulo n is d modulo n": under 1000 some numbers have several signatures, which are
     * all right, and some have none.
     */
    private static void everySignatureUnderTheLowestKey() {
        int several = 0;
        while (signaturesOf(several) < 2) {
            several++;
        }
        int none = 0;
        while (signaturesOf(none) > 0) {
            none++;
        }
        everySignature(several);
        everySignature(none);
    }

    private static int signaturesOf(int nonce) {
        int right = 0;
        for (int sig = 0; sig < LOWEST; sig++) {
            right += isRight(nonce, sig) ? 1 : 0;
        }
        return right;
    }

    private static boolean isRight(int nonce, int sig) {
        return Sums.raised(sig, LOWEST) == Sums.digest(1, LOWEST, nonce, 0, 0) % LOWEST;
    }

    private static void everySignature(int nonce) {
        ChallengeAuthority x = new ChallengeAuthority(3);
        for (int sig = 0; sig < LOWEST; sig++) {
            x = sig % CALLS_ON_AN_OBJECT == 0 ? new ChallengeAuthority(3) : x;
            looksAt(x, LOWEST, nonce, sig, isRight(nonce, sig));
        }
    }

    /** A nonce that is not out is looked at only behind a signature that is right. */
    private static void looksAt(ChallengeAuthority x, int key, int nonce, int sig, boolean right) {
        Check.refuses("signature " + sig + " under " + key,
                right ? Refusal.ARGUMENT : Refusal.UNSUPPORTED, () -> x.account(key, nonce, sig));
    }

    /** "0 .. n - 1": -1 and n would be right by their powers wherever n - 1 and 0 are. */
    private static void theLowestAndTheHighestSignature() {
        for (int key : new int[] {1001, 1147, HIGHEST}) {
            ChallengeAuthority x = new ChallengeAuthority(4);
            int forLowest = nonceWhoseRestIs(0, key);
            looksAt(x, key, forLowest, 0, true);
            looksAt(x, key, forLowest, key, false);
            looksAt(x, key, forLowest, -key, false);
            int forHighest = nonceWhoseRestIs(key - 1, key);
            looksAt(x, key, forHighest, key - 1, true);
            looksAt(x, key, forHighest, -1, false);
            looksAt(x, key, forHighest, 2 * key - 1, false);
        }
    }

    private static int nonceWhoseRestIs(int rest, int key) {
        int nonce = 0;
        while (Sums.digest(1, key, nonce, 0, 0) % key != rest) {
            nonce++;
        }
        return nonce;
    }

    private static void theLowestAndTheHighestSecondSignature() {
        secondSignature(0, 0, true);
        secondSignature(0, 1, false);
        secondSignature(0, -1, false);
        secondSignature(-1, 1, true);
        secondSignature(-1, 0, false);
        secondSignature(-1, 2, false);
    }

    /** A rollover to a key n under which the rest is right, signed with rest + many * n. */
    private static void secondSignature(int rest, int many, boolean right) {
        Client c = new Client(5);
        c.open(10807);
        int nonce = c.nonce();
        int key = LOWEST;
        while (Sums.digest(7, 0, nonce, key, 0) % key != Math.floorMod(rest, key)) {
            key++;
        }
        int met = key;
        int sig = c.sign(0, 7, 0, nonce, key, 0);
        int sig2 = rest + many * key;
        Check.Call call = () -> c.x.rollover(0, nonce, met, sig, sig2);
        if (right) {
            Check.answers("second signature " + sig2, 10807, call);
        } else {
            Check.refuses("second signature " + sig2, Refusal.UNSUPPORTED, call);
        }
    }
}
