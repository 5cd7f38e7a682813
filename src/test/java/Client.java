/** Somebody who uses an authority as its document asks: takes a nonce, signs, and calls. */
final class Client {
    final ChallengeAuthority x;

    Client(int seed) {
        x = new ChallengeAuthority(seed);
    }

    int keyOf(int k) {
        return x.detail(0, k, 0);
    }

    int sign(int k, int... ints) {
        return Sums.sign(Sums.digest(ints), keyOf(k));
    }

    int open(int key) {
        int nonce = x.nonce();
        return x.account(key, nonce, Sums.sign(Sums.digest(1, key, nonce, 0, 0), key));
    }

    int order(int k, int names, int life) {
        int nonce = x.nonce();
        return x.order(k, nonce, names, life, sign(k, 2, k, nonce, names, life));
    }

    int answer(int k, int a, int which) {
        int nonce = x.nonce();
        return x.answer(k, nonce, a, which, sign(k, 3, k, nonce, a, which));
    }

    int finish(int k, int o) {
        int nonce = x.nonce();
        return x.finish(k, nonce, o, sign(k, 4, k, nonce, o, x.csr()));
    }

    int revoke(int k, int c, int reason) {
        int nonce = x.nonce();
        return x.revoke(k, nonce, c, reason, sign(k, 5, k, nonce, c, reason));
    }

    int deactivate(int k, int a) {
        int nonce = x.nonce();
        return x.deactivate(k, nonce, a, sign(k, 6, k, nonce, a, 0));
    }

    int close(int k) {
        return deactivate(k, -1);
    }

    int rollover(int k, int key) {
        int nonce = x.nonce();
        int d = Sums.digest(7, k, nonce, key, 0);
        return x.rollover(k, nonce, key, Sums.sign(d, keyOf(k)), Sums.sign(d, key));
    }

    /** What has to be found for a challenge to be met. */
    int due(int a, int which) {
        return Sums.digest(8, x.detail(3, 2 * a + which, 0), keyOf(x.detail(2, a, 0)), 0, 0);
    }

    int meet(int a, int which) {
        return x.probe(a, which, due(a, which));
    }

    int miss(int a, int which) {
        return x.probe(a, which, due(a, which) ^ 1);
    }

    /** Makes authorization a of account k VALID by its challenge 0. */
    void prove(int k, int a) {
        answer(k, a, 0);
        meet(a, 0);
    }

    /** An order that is READY. */
    int ready(int k, int names, int life) {
        int o = order(k, names, life);
        for (int i = 0; i < x.detail(1, o, 4); i++) {
            int a = x.detail(1, o, 5 + i);
            if (x.state(2, a) == 0) {
                prove(k, a);
            }
        }
        return o;
    }

    void feed(byte[] bytes) {
        for (int from = 0; from < bytes.length; from += 8) {
            int n = Math.min(8, bytes.length - from);
            long piece = 0;
            for (int i = 0; i < n; i++) {
                piece = piece << 8 | bytes[from + i] & 0xFF;
            }
            x.feed(piece, n);
        }
    }

    /** The text is these bytes and nothing else. */
    void text(byte[] bytes) {
        x.clear();
        feed(bytes);
    }

    /** A certificate with the key for the names, whose order is PROCESSING. */
    int certify(int k, int key, int... names) {
        int o = ready(k, Sums.sum(names), 100);
        text(Sums.request(key, names));
        return finish(k, o);
    }
}
