import java.util.ArrayList;
import java.util.List;
import java.util.NoSuchElementException;

/** What promises 6, 7, 9, 11, 12 and 13 have in common: each is a signed call. */
public final class SignedCallsTest {
    private static final int KEY = 10807;
    private static final int NEXT_KEY = 16637;
    /** How many details each kind has. */
    private static final int[] DETAILS = {2, 9, 3, 2, 5};

    /** A signed call: the ints that its signature is of, and the call with a signature. */
    private enum Signed {
        ORDER {
            int[] ints(Client c, int k, int nonce) {
                return new int[] {2, k, nonce, 64, 7};
            }

            int call(Client c, int k, int nonce, int sig) {
                return c.x.order(k, nonce, 64, 7, sig);
            }
        },
        ANSWER {
            int[] ints(Client c, int k, int nonce) {
                return new int[] {3, k, nonce, 1, 1};
            }

            int call(Client c, int k, int nonce, int sig) {
                return c.x.answer(k, nonce, 1, 1, sig);
            }
        },
        FINISH {
            int[] ints(Client c, int k, int nonce) {
                return new int[] {4, k, nonce, 0, c.x.csr()};
            }

            int call(Client c, int k, int nonce, int sig) {
                return c.x.finish(k, nonce, 0, sig);
            }
        },
        REVOKE {
            int[] ints(Client c, int k, int nonce) {
                return new int[] {5, k, nonce, 0, 3};
            }

            int call(Client c, int k, int nonce, int sig) {
                return c.x.revoke(k, nonce, 0, 3, sig);
            }
        },
        DEACTIVATE {
            int[] ints(Client c, int k, int nonce) {
                return new int[] {6, k, nonce, 1, 0};
            }

            int call(Client c, int k, int nonce, int sig) {
                return c.x.deactivate(k, nonce, 1, sig);
            }
        },
        ROLLOVER {
            int[] ints(Client c, int k, int nonce) {
                return new int[] {7, k, nonce, NEXT_KEY, 0};
            }

            int call(Client c, int k, int nonce, int sig) {
                int sig2 = Sums.sign(Sums.digest(7, k, nonce, NEXT_KEY, 0), NEXT_KEY);
                return c.x.rollover(k, nonce, NEXT_KEY, sig, sig2);
            }
        };

        abstract int[] ints(Client c, int k, int nonce);

        abstract int call(Client c, int k, int nonce, int sig);

        int sign(Client c, int k, int nonce) {
            return Sums.sign(Sums.digest(ints(c, k, nonce)), KEY);
        }
    }

    public static void main(String[] args) {
        for (Signed signed : Signed.values()) {
            aRightOneUsesItsNonceUp(signed);
            thereIsNoSuchAccount(signed);
            theAccountIsClosed(signed);
            theSignatureIsOfSomethingElse(signed);
            theSignatureIsOutOfBounds(signed);
            theNonceIsNotOut(signed);
        }
        lateRefusalsChangeNothingButTheNonce();
        Check.end();
    }

    /** Account 0 with an order that is READY or, for revoke, VALID, and one that is PENDING. */
    private static Client scene(Signed signed) {
        Client c = new Client(31);
        c.open(KEY);
        if (signed == Signed.REVOKE) {
            c.certify(0, 12317, 5);
            c.x.publish();
        } else {
            c.ready(0, 32, 50);
            c.text(Sums.request(12317, 5));
        }
        c.order(0, 8, 50);
        return c;
    }

    private static void aRightOneUsesItsNonceUp(Signed signed) {
        Client c = scene(signed);
        int older = c.x.nonce();
        int nonce = c.x.nonce();
        Check.holds(signed + " is accepted", signed.call(c, 0, nonce, signed.sign(c, 0, nonce)) >= 0);
        Check.due(signed + " uses one nonce up", c.x.there(3), 1);
        Check.refuses(signed + " with its nonce again", refusalOfUsedNonce(signed),
                () -> signed.call(c, 0, nonce, signed.sign(c, 0, nonce)));
        Check.answers("the other nonce is out", 0, () -> c.x.account(c.keyOf(0), older,
                Sums.sign(Sums.digest(1, c.keyOf(0), older, 0, 0), c.keyOf(0))));
    }

    /** After a rollover the signature, under the key before, is wrong in the first place. */
    private static Class<? extends RuntimeException> refusalOfUsedNonce(Signed signed) {
        return signed == Signed.ROLLOVER
                ? UnsupportedOperationException.class
                : IllegalArgumentException.class;
    }

    private static void thereIsNoSuchAccount(Signed signed) {
        Client c = scene(signed);
        int nonce = c.x.nonce();
        for (int k : new int[] {-1, 1, 6, Integer.MAX_VALUE, Integer.MIN_VALUE}) {
            Check.refuses(signed + " of account " + k, NoSuchElementException.class,
                    () -> signed.call(c, k, nonce, signed.sign(c, k, nonce)));
            Check.refuses(signed + " of account " + k + ", all wrong", NoSuchElementException.class,
                    () -> signed.call(c, k, nonce + 1, -1));
        }
        Check.due(signed + ": the nonce is still out", c.x.there(3), 1);
    }

    private static void theAccountIsClosed(Signed signed) {
        Client c = scene(signed);
        c.close(0);
        int nonce = c.x.nonce();
        Check.refuses(signed + " of a closed account", UnsupportedOperationException.class,
                () -> signed.call(c, 0, nonce, signed.sign(c, 0, nonce)));
        Check.refuses(signed + " of a closed account, no nonce", UnsupportedOperationException.class,
                () -> signed.call(c, 0, nonce + 1, signed.sign(c, 0, nonce + 1)));
        Check.due(signed + ": the nonce is still out", c.x.there(3), 1);
    }

    private static void theSignatureIsOfSomethingElse(Signed signed) {
        Client c = scene(signed);
        int nonce = c.x.nonce();
        for (int i = 0; i < 5; i++) {
            int[] ints = signed.ints(c, 0, nonce);
            ints[i]++;
            int sig = Sums.sign(Sums.digest(ints), KEY);
            Check.refuses(signed + " signed with another int " + i,
                    UnsupportedOperationException.class, () -> signed.call(c, 0, nonce, sig));
        }
        int sig = signed.sign(c, 0, nonce);
        Check.refuses(signed + " with a wrong signature and no nonce",
                UnsupportedOperationException.class, () -> signed.call(c, 0, nonce + 1, sig));
        Check.due(signed + ": the nonce is still out", c.x.there(3), 1);
    }

    private static void theSignatureIsOutOfBounds(Signed signed) {
        Client c = scene(signed);
        int nonce = c.x.nonce();
        int right = signed.sign(c, 0, nonce);
        for (int sig : new int[] {right + KEY, right - KEY, -1, KEY, Integer.MAX_VALUE}) {
            Check.refuses(signed + " with signature " + sig,
                    UnsupportedOperationException.class, () -> signed.call(c, 0, nonce, sig));
        }
        Check.due(signed + ": the nonce is still out", c.x.there(3), 1);
    }

    private static void theNonceIsNotOut(Signed signed) {
        Client c = scene(signed);
        int nonce = c.x.nonce() + 1;
        Check.refuses(signed + " with a nonce that is not out", IllegalArgumentException.class,
                () -> signed.call(c, 0, nonce, signed.sign(c, 0, nonce)));
        Check.due(signed + ": the other nonce is still out", c.x.there(3), 1);
    }

    private static void lateRefusalsChangeNothingButTheNonce() {
        List<Check.Call> refused = new ArrayList<>();
        Client c = new Client(32);
        c.open(KEY);
        c.open(1147);
        c.ready(0, 3, 50);
        c.order(1, 16, 50);
        refused.add(() -> c.order(0, 31, 5));
        refused.add(() -> c.order(0, 1, 101));
        refused.add(() -> c.answer(0, 0, 0));
        refused.add(() -> c.answer(0, 2, 0));
        refused.add(() -> c.answer(0, 3, 0));
        refused.add(() -> c.finish(0, 0));
        refused.add(() -> c.finish(1, 1));
        refused.add(() -> c.finish(0, 1));
        refused.add(() -> c.revoke(0, 0, 0));
        refused.add(() -> c.deactivate(0, 2));
        refused.add(() -> c.deactivate(0, -2));
        refused.add(() -> c.rollover(0, 1147));
        String before = told(c);
        for (Check.Call call : refused) {
            boolean threw = false;
            try {
                call.run();
            } catch (RuntimeException e) {
                threw = true;
            }
            Check.holds("the call is refused", threw);
            Check.due("its nonce is used up", c.x.there(3), 0);
        }
        Check.holds("nothing else changed", told(c).equals(before));
    }

    private static String told(Client c) {
        StringBuilder all = new StringBuilder();
        int[] there = {c.x.there(0), c.x.there(1), c.x.there(2), 2 * c.x.there(2), c.x.there(4)};
        for (int kind = 0; kind < there.length; kind++) {
            for (int k = 0; k < there[kind]; k++) {
                all.append(' ').append(c.x.state(kind, k)).append(':');
                for (int what = 0; what < DETAILS[kind]; what++) {
                    all.append(c.x.detail(kind, k, what)).append(',');
                }
            }
        }
        return all.append(c.x.csr()).append(' ').append(c.x.tick(0)).toString();
    }
}
