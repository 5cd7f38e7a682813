import java.util.ArrayList;
import java.util.List;
import java.util.NoSuchElementException;

/**
 * Somebody who uses an authority as its document asks: takes a nonce, signs, and calls. With a
 * fault the signed calls are wrong on purpose.
 */
final class Client {
    /** What is wrong with signed calls: another signature, or a nonce that is not out, or both. */
    enum Fault {
        NONE(false, false),
        SIGNATURE(true, false),
        NONCE(false, true),
        BOTH(true, true);

        final boolean ofSignature;
        final boolean ofNonce;

        Fault(boolean ofSignature, boolean ofNonce) {
            this.ofSignature = ofSignature;
            this.ofNonce = ofNonce;
        }
    }

    /** Nonces are below this, so one with this bit is never out. */
    private static final int NEVER_DRAWN = 1 << 24;
    /** Signs for accounts and under keys that there are not. */
    private static final int ANY_KEY = 1003;

    final ChallengeAuthority x;
    final List<Integer> drawn = new ArrayList<>();
    Fault fault = Fault.NONE;

    Client(int seed) {
        x = new ChallengeAuthority(seed);
    }

    int nonce() {
        int nonce = x.nonce();
        drawn.add(nonce);
        return nonce;
    }

    /** Whether the nonce was out; it is not any more. Where account 0 is, nothing else changes. */
    boolean takes(int nonce) {
        int key = keyToSign(0);
        try {
            x.account(key, nonce, Sums.sign(Sums.digest(1, key, nonce, 0, 0), key));
            return true;
        } catch (IllegalStateException e) {
            return true;
        } catch (IllegalArgumentException e) {
            return false;
        }
    }

    private int nonceToShow() {
        int nonce = nonce();
        return fault.ofNonce ? nonce | NEVER_DRAWN : nonce;
    }

    int keyOf(int k) {
        return x.detail(0, k, 0);
    }

    int sign(int k, int... ints) {
        return signUnder(keyToSign(k), ints);
    }

    private int keyToSign(int k) {
        try {
            return keyOf(k);
        } catch (NoSuchElementException e) {
            return ANY_KEY;
        }
    }

    /** Signs also under numbers that are a little too low or too high to be keys. */
    private int signUnder(int key, int... ints) {
        int signing = key > 0 && key < 1 << 16 ? key : ANY_KEY;
        int right = Sums.sign(Sums.digest(ints), signing);
        return fault.ofSignature ? (right + 1) % signing : right;
    }

    int open(int key) {
        int nonce = nonceToShow();
        return x.account(key, nonce, signUnder(key, 1, key, nonce, 0, 0));
    }

    int order(int k, int names, int life) {
        int nonce = nonceToShow();
        return x.order(k, nonce, names, life, sign(k, 2, k, nonce, names, life));
    }

    int answer(int k, int a, int which) {
        int nonce = nonceToShow();
        return x.answer(k, nonce, a, which, sign(k, 3, k, nonce, a, which));
    }

    int finish(int k, int o) {
        int nonce = nonceToShow();
        return x.finish(k, nonce, o, sign(k, 4, k, nonce, o, x.csr()));
    }

    int revoke(int k, int c, int reason) {
        int nonce = nonceToShow();
        return x.revoke(k, nonce, c, reason, sign(k, 5, k, nonce, c, reason));
    }

    int deactivate(int k, int a) {
        int nonce = nonceToShow();
        return x.deactivate(k, nonce, a, sign(k, 6, k, nonce, a, 0));
    }

    int close(int k) {
        return deactivate(k, -1);
    }

    int rollover(int k, int key) {
        int nonce = nonceToShow();
        int sig2 = Sums.sign(Sums.digest(7, k, nonce, key, 0), key);
        return x.rollover(k, nonce, key, sign(k, 7, k, nonce, key, 0), sig2);
    }

    /** A rollover whose second signature is whatever is told. */
    int rollover(int k, int key, int sig2) {
        int nonce = nonceToShow();
        return x.rollover(k, nonce, key, sign(k, 7, k, nonce, key, 0), sig2);
    }

    /** What has to be found for a challenge to be met. */
    int due(int a, int which) {
        return Sums.digest(8, x.detail(3, 2 * a + which, 0), keyOf(x.detail(2, a, 0)), 0, 0);
    }

    int meet(int a, int which) {
        return x.probe(a, which, due(a, which));
    }

    int miss(int a, int which) {
        return x.probe(a, which, due(a, which) ^ 1);
    }

    /** Makes authorization a of account k VALID by its challenge 0. */
    void prove(int k, int a) {
        answer(k, a, 0);
        meet(a, 0);
    }

    /** An order that is READY. */
    int ready(int k, int names, int life) {
        int o = order(k, names, life);
        int authorizations = x.detail(1, o, 4);
        for (int i = 0; i < authorizations; i++) {
            int a = x.detail(1, o, 5 + i);
            if (x.state(2, a) == 0) {
                prove(k, a);
            }
        }
        return o;
    }

    void feed(byte[] bytes) {
        for (int from = 0; from < bytes.length; from += 8) {
            int n = Math.min(8, bytes.length - from);
            long piece = 0;
            for (int i = 0; i < n; i++) {
                piece = piece << 8 | bytes[from + i] & 0xFF;
            }
            x.feed(piece, n);
        }
    }

    /** The text is these bytes and nothing else. */
    void text(byte[] bytes) {
        x.clear();
        feed(bytes);
    }

    /** A certificate with the key for the names, whose order is PROCESSING. */
    int certify(int k, int key, int... names) {
        int o = ready(k, Sums.sum(names), 100);
        text(Sums.request(key, names));
        return finish(k, o);
    }
}
