/** What promises 6, 7, 9, 11, 12 and 13 have in common: each is a SIGNED call (Terms). */
public final class SignedCallsTest {
    private static final int KEY = World.OWNER_KEY;
    /** With this seed the second and the fourth nonce are the same, and the third is not. */
    private static final int SEED_OF_TWINS = 1204367290;

    /** A call in the world of World: the ints that its signature is of, and the call itself. */
    private enum Signed {
        ORDER {
            int[] ints(Client c, int nonce) {
                return new int[] {2, World.OWNER, nonce, 64, 7};
            }

            int call(Client c, int nonce, int sig) {
                return c.x.order(World.OWNER, nonce, 64, 7, sig);
            }

            int by(Client c, int k) {
                return c.order(k, 64, 7);
            }
        },
        ANSWER {
            int[] ints(Client c, int nonce) {
                return new int[] {3, World.OWNER, nonce, World.PENDING, 1};
            }

            int call(Client c, int nonce, int sig) {
                return c.x.answer(World.OWNER, nonce, World.PENDING, 1, sig);
            }

            int by(Client c, int k) {
                return c.answer(k, World.PENDING, 1);
            }
        },
        FINISH {
            int[] ints(Client c, int nonce) {
                return new int[] {4, World.OWNER, nonce, World.READY_ORDER, c.x.csr()};
            }

            int call(Client c, int nonce, int sig) {
                return c.x.finish(World.OWNER, nonce, World.READY_ORDER, sig);
            }

            int by(Client c, int k) {
                return c.finish(k, World.READY_ORDER);
            }
        },
        REVOKE {
            int[] ints(Client c, int nonce) {
                return new int[] {5, World.OWNER, nonce, World.GOOD_CERTIFICATE, 3};
            }

            int call(Client c, int nonce, int sig) {
                return c.x.revoke(World.OWNER, nonce, World.GOOD_CERTIFICATE, 3, sig);
            }

            int by(Client c, int k) {
                return c.revoke(k, World.GOOD_CERTIFICATE, 3);
            }
        },
        DEACTIVATE {
            int[] ints(Client c, int nonce) {
                return new int[] {6, World.OWNER, nonce, World.PENDING, 0};
            }

            int call(Client c, int nonce, int sig) {
                return c.x.deactivate(World.OWNER, nonce, World.PENDING, sig);
            }

            int by(Client c, int k) {
                return c.deactivate(k, World.PENDING);
            }
        },
        CLOSE {
            int[] ints(Client c, int nonce) {
                return new int[] {6, World.OWNER, nonce, -1, 0};
            }

            int call(Client c, int nonce, int sig) {
                return c.x.deactivate(World.OWNER, nonce, -1, sig);
            }

            int by(Client c, int k) {
                return c.close(k);
            }
        },
        ROLLOVER {
            int[] ints(Client c, int nonce) {
                return new int[] {7, World.OWNER, nonce, World.FREE_KEY, 0};
            }

            int call(Client c, int nonce, int sig) {
                int sig2 = Sums.sign(Sums.digest(ints(c, nonce)), World.FREE_KEY);
                return c.x.rollover(World.OWNER, nonce, World.FREE_KEY, sig, sig2);
            }

            int by(Client c, int k) {
                return c.rollover(k, World.FREE_KEY);
            }
        };

        abstract int[] ints(Client c, int nonce);

        abstract int call(Client c, int nonce, int sig);

        /** The same call by account k, signed under its key. */
        abstract int by(Client c, int k);

        int sign(Client c, int nonce) {
            return Sums.sign(Sums.digest(ints(c, nonce)), KEY);
        }
    }

    public static void main(String[] args) {
        for (Signed signed : Signed.values()) {
            aRightOneUsesItsNonceUp(signed);
            Refusal.inWorld().beforeNonce(signed.toString(), World.OWNER, signed::by);
            noAccountHasANumberOutOfBounds(signed);
            theSignatureIsOfSomethingElse(signed);
            theSignatureIsOutOfBounds(signed);
            theNonceIsNotOut(signed);
        }
        ofTwinsTheOlderGoes();
        Check.end();
    }

    private static void aRightOneUsesItsNonceUp(Signed signed) {
        Client c = World.make();
        int nonce = c.nonce();
        int younger = c.nonce();
        int sig = signed.sign(c, nonce);
        Check.holds(signed + " is accepted", signed.call(c, nonce, sig) >= 0);
        Check.due(signed + " uses one nonce up", c.x.there(3), 3);
        Check.holds(signed + " leaves no such nonce out", !c.takes(nonce));
        Check.holds(signed + " leaves the younger one out", c.takes(younger));
        Check.due("the two older ones are out too", c.x.there(3), 2);
    }

    private static void noAccountHasANumberOutOfBounds(Signed signed) {
        for (int k : new int[] {6, Integer.MAX_VALUE, Integer.MIN_VALUE}) {
            Refusal.inWorld().early(signed + " by account " + k, Refusal.NO_SUCH,
                    Client.Fault.NONE, c -> signed.by(c, k));
        }
    }

    private static void theSignatureIsOfSomethingElse(Signed signed) {
        Client c = World.make();
        int nonce = c.nonce();
        for (int i = 0; i < 5; i++) {
            int[] ints = signed.ints(c, nonce);
            ints[i]++;
            int sig = Sums.sign(Sums.digest(ints), KEY);
            Check.refuses(signed + " signed with another int " + i, Refusal.UNSUPPORTED,
                    () -> signed.call(c, nonce, sig));
        }
        int another = Sums.sign(Sums.digest(signed.ints(c, nonce)), World.OTHER_KEY);
        Check.refuses(signed + " signed under another's key", Refusal.UNSUPPORTED,
                () -> signed.call(c, nonce, another));
        Check.due(signed + ": the nonces are still out", c.x.there(3), 3);
    }

    private static void theSignatureIsOutOfBounds(Signed signed) {
        Client c = World.make();
        int nonce = c.nonce();
        int right = signed.sign(c, nonce);
        int[] wrong = {
            right + KEY, right - KEY, right + 2 * KEY, -1, KEY, Integer.MAX_VALUE, Integer.MIN_VALUE
        };
        for (int sig : wrong) {
            Check.refuses(signed + " with signature " + sig, Refusal.UNSUPPORTED,
                    () -> signed.call(c, nonce, sig));
        }
        Check.due(signed + ": the nonces are still out", c.x.there(3), 3);
        Check.holds(signed + " with the right one", signed.call(c, nonce, right) >= 0);
    }

    private static void theNonceIsNotOut(Signed signed) {
        Client c = World.make();
        int used = c.nonce();
        c.takes(used);
        for (int nonce : new int[] {used, used + 1, 0, -1, Integer.MIN_VALUE}) {
            int sig = signed.sign(c, nonce);
            Check.refuses(signed + " with nonce " + nonce, Refusal.ARGUMENT,
                    () -> signed.call(c, nonce, sig));
        }
        Check.due(signed + ": the nonces are still out", c.x.there(3), 2);
    }

    /** "one, the oldest, if it is out several times": also if the call throws later on. */
    private static void ofTwinsTheOlderGoes() {
        Client c = new Client(SEED_OF_TWINS);
        c.open(KEY);
        int twin = c.nonce();
        c.nonce();
        Check.due("the fourth nonce", c.nonce(), twin);
        Check.refuses("an order of no names", Refusal.ARGUMENT,
                () -> c.x.order(0, twin, 0, 5, c.sign(0, 2, 0, twin, 0, 5)));
        Check.due("one went", c.x.there(3), 2);
        for (int i = 0; i < 7; i++) {
            c.nonce();
        }
        Check.answers("the younger twin is still out", 0,
                () -> c.x.order(0, twin, 1, 5, c.sign(0, 2, 0, twin, 1, 5)));
        Check.refuses("there is no third twin", Refusal.ARGUMENT,
                () -> c.x.order(0, twin, 1, 5, c.sign(0, 2, 0, twin, 1, 5)));
    }
}
