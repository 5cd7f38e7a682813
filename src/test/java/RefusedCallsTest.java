/**
 * "It throws, the first of these that is so", "the nonce is not out any more, whatever comes then",
 * and "Apart from that a call that throws changes nothing": for each reason to refuse a call.
 */
public final class RefusedCallsTest {
    private static final int MIN = Integer.MIN_VALUE;
    private static final int MAX = Integer.MAX_VALUE;
    private static final int[] NO_KEYS = {999, 32768, 0, -1, MAX, MIN};

    private static final Refusal WORLD = Refusal.inWorld();

    public static void main(String[] args) {
        account();
        aSeventhAccount();
        order();
        tooManyOrders();
        tooManyAuthorizations();
        answer();
        probe();
        finish();
        requestsThatDoNotFit();
        revoke();
        deactivate();
        rollover();
        rolloverWithAWrongSecondSignature();
        feed();
        tick();
        whatIsNotThere();
        Check.end();
    }

    private static void account() {
        for (int key : NO_KEYS) {
            for (Client.Fault fault : Client.Fault.values()) {
                WORLD.early("account with key " + key, Refusal.ARGUMENT, fault, c -> c.open(key));
            }
        }
        for (int key : new int[] {World.FREE_KEY, World.OTHER_KEY, World.CLOSED_KEY}) {
            refusedBeforeItsState(WORLD, key);
        }
        WORLD.late("account with a CLOSED one's key", Refusal.STATE, c -> c.open(World.CLOSED_KEY));
    }

    private static void refusedBeforeItsState(Refusal scene, int key) {
        String what = "account with key " + key;
        scene.early(what, Refusal.UNSUPPORTED, Client.Fault.SIGNATURE, c -> c.open(key));
        scene.early(what, Refusal.ARGUMENT, Client.Fault.NONCE, c -> c.open(key));
        scene.early(what, Refusal.UNSUPPORTED, Client.Fault.BOTH, c -> c.open(key));
    }

    private static void aSeventhAccount() {
        Refusal full = new Refusal(RefusedCallsTest::sixAccounts, 5, 6);
        refusedBeforeItsState(full, World.FREE_KEY);
        full.late("a seventh account", Refusal.STATE, c -> c.open(World.FREE_KEY));
        full.early("no key for a seventh", Refusal.ARGUMENT, Client.Fault.NONE, c -> c.open(999));
    }

    private static Client sixAccounts() {
        Client c = new Client(152);
        for (int key : new int[] {10807, 12317, 1147, 32767, 1001, 1003}) {
            c.open(key);
        }
        c.close(5);
        return c;
    }

    private static void order() {
        int[] wrongNames = {0, 31, 0xF800, 0xFFFF, 1 << 16, 1 << 16 | 1, 1 << 30, -1, MIN, MIN | 1};
        for (int names : wrongNames) {
            WORLD.afterSignature("order of names " + names, Refusal.ARGUMENT, World.OWNER,
                    (c, k) -> c.order(k, names, 50));
        }
        for (int life : new int[] {0, 101, -1, MAX, MIN}) {
            WORLD.afterSignature("order for " + life, Refusal.ARGUMENT, World.OWNER,
                    (c, k) -> c.order(k, 1, life));
        }
    }

    private static void tooManyOrders() {
        Refusal full = new Refusal(RefusedCallsTest::twelveOrders, 1, 2);
        full.afterSignature("a 13th order", Refusal.STATE, 0, (c, k) -> c.order(k, 1, 50));
        full.afterSignature("a 13th order of no names", Refusal.ARGUMENT, 0,
                (c, k) -> c.order(k, 0, 50));
        full.afterSignature("a 13th order for no time", Refusal.ARGUMENT, 0,
                (c, k) -> c.order(k, 1, 0));
    }

    private static Client twelveOrders() {
        Client c = new Client(153);
        c.open(10807);
        c.open(1147);
        c.close(1);
        c.ready(0, 1, 50);
        for (int o = 1; o < 12; o++) {
            c.order(0, 1, 50);
        }
        return c;
    }

    private static void tooManyAuthorizations() {
        Refusal full = new Refusal(() -> authorizations(23), 1, 2);
        full.afterSignature("a 24th and a 25th", Refusal.STATE, 0, (c, k) -> c.order(k, 0x30, 50));
        full.afterSignature("one that is VALID, a 24th and a 25th", Refusal.STATE, 0,
                (c, k) -> c.order(k, 0x31, 50));
        full.afterSignature("a 24th and a 25th, for too long", Refusal.ARGUMENT, 0,
                (c, k) -> c.order(k, 0x30, 101));
    }

    /** So many authorizations, the first of them, for name 0, VALID and the others PENDING. */
    private static Client authorizations(int many) {
        Client c = new Client(154);
        c.open(10807);
        c.open(1147);
        c.close(1);
        c.ready(0, 1, 50);
        for (int left = many - 1; left > 0; left -= 4) {
            c.order(0, left >= 4 ? 0x1E : (1 << left + 1) - 2, 50);
        }
        return c;
    }

    private static void answer() {
        int[][] none = {
            {-1, 0}, {World.NO_AUTHORIZATION, 0}, {24, 0}, {MAX, 0}, {MIN, 0},
            {World.PENDING, -1}, {World.PENDING, 2}, {World.PENDING, MAX}, {World.PENDING, MIN},
            {World.OTHERS, 2}, {World.EXPIRED, 2}
        };
        answers(Refusal.NO_SUCH, none);
        answers(Refusal.UNSUPPORTED, new int[][] {
            {World.OTHERS, 0}, {World.OTHERS, 1}, {World.CLOSED_ONES, 0}
        });
        answers(Refusal.STATE, new int[][] {
            {World.PENDING, 0}, {World.EXPIRED, 0}, {World.EXPIRED, 1}, {World.VALID, 0},
            {World.VALID, 1}, {World.VALID_BY_ONE, 1}, {World.INVALID, 0}, {World.INVALID, 1},
            {World.DEACTIVATED, 0}, {World.DEACTIVATED, 1}
        });
    }

    private static void answers(Class<? extends RuntimeException> want, int[][] challenges) {
        for (int[] one : challenges) {
            WORLD.afterSignature("answer for " + one[0] + ", " + one[1], want, World.OWNER,
                    (c, k) -> c.answer(k, one[0], one[1]));
        }
    }

    private static void probe() {
        int[][] none = {
            {-1, 0}, {World.NO_AUTHORIZATION, 0}, {24, 0}, {MAX, 0}, {MIN, 0},
            {World.PENDING, -1}, {World.PENDING, 2}, {World.PENDING, MAX}, {World.PENDING, MIN},
            {World.EXPIRED, 2}
        };
        for (int[] one : none) {
            WORLD.plain("probe of " + one[0] + ", " + one[1], Refusal.NO_SUCH,
                    c -> c.x.probe(one[0], one[1], 0));
        }
        int[][] wrongStates = {
            {World.PENDING, 1}, {World.EXPIRED, 0}, {World.CLOSED_ONES, 0}, {World.VALID, 0},
            {World.VALID, 1}, {World.VALID_BY_ONE, 1}, {World.INVALID, 0}, {World.INVALID, 1},
            {World.DEACTIVATED, 0}, {World.DEACTIVATED, 1}, {World.OTHERS, 0}
        };
        for (int[] one : wrongStates) {
            String what = "probe of " + one[0] + ", " + one[1];
            WORLD.plain(what + ", right", Refusal.STATE, c -> c.meet(one[0], one[1]));
            WORLD.plain(what + ", wrong", Refusal.STATE, c -> c.miss(one[0], one[1]));
        }
    }

    private static void finish() {
        Refusal noText = Refusal.inWorldWithText(new byte[0]);
        for (int o : new int[] {-1, World.NO_ORDER, 12, MAX, MIN}) {
            finishes(WORLD, Refusal.NO_SUCH, World.OWNER, o);
            finishes(noText, Refusal.NO_SUCH, World.OWNER, o);
        }
        finishes(WORLD, Refusal.UNSUPPORTED, World.OTHER, World.READY_ORDER);
        finishes(noText, Refusal.UNSUPPORTED, World.OTHER, World.READY_ORDER);
        finishes(WORLD, Refusal.UNSUPPORTED, World.OWNER, World.OTHERS_ORDER);
        int[] notReady = {
            World.EXPIRED_ORDER, World.VALID_ORDER, World.REVOKED_ORDER, World.PROCESSING_ORDER,
            World.PENDING_ORDER, World.INVALID_ORDER, World.DEACTIVATED_ORDER
        };
        for (int o : notReady) {
            finishes(WORLD, Refusal.STATE, World.OWNER, o);
            finishes(noText, Refusal.STATE, World.OWNER, o);
        }
    }

    private static void finishes(
            Refusal scene, Class<? extends RuntimeException> want, int k, int o) {
        scene.afterSignature("finish of " + o, want, k, (c, by) -> c.finish(by, o));
    }

    private static void requestsThatDoNotFit() {
        byte[][] texts = {
            {}, Sums.request(World.FREE_KEY, 1), Sums.request(World.FREE_KEY, 1, 2, 3),
            Sums.request(World.OWNER_KEY, World.READY_NAMES),
            Sums.join(Sums.request(World.FREE_KEY, World.READY_NAMES), Sums.bytes(0))
        };
        for (byte[] text : texts) {
            Refusal scene = Refusal.inWorldWithText(text);
            finishes(scene, Refusal.ARGUMENT, World.OWNER, World.READY_ORDER);
        }
    }

    private static void revoke() {
        for (int one : new int[] {-1, World.NO_CERTIFICATE, 12, MAX, MIN}) {
            revokes(Refusal.NO_SUCH, World.OWNER, one, 0);
            revokes(Refusal.NO_SUCH, World.OWNER, one, 11);
        }
        int[] all = {
            World.GOOD_CERTIFICATE, World.REVOKED_CERTIFICATE, World.FRESH_CERTIFICATE
        };
        for (int one : all) {
            revokes(Refusal.UNSUPPORTED, World.OTHER, one, 10);
            revokes(Refusal.UNSUPPORTED, World.OTHER, one, 11);
            for (int reason : new int[] {-1, 11, MAX, MIN}) {
                revokes(Refusal.ARGUMENT, World.OWNER, one, reason);
            }
        }
        for (int reason : new int[] {0, 10}) {
            revokes(Refusal.STATE, World.OWNER, World.REVOKED_CERTIFICATE, reason);
            revokes(Refusal.STATE, World.OWNER, World.FRESH_CERTIFICATE, reason);
        }
    }

    private static void revokes(
            Class<? extends RuntimeException> want, int k, int one, int reason) {
        WORLD.afterSignature("revoke of " + one + " for " + reason, want, k,
                (c, by) -> c.revoke(by, one, reason));
    }

    private static void deactivate() {
        for (int a : new int[] {-2, World.NO_AUTHORIZATION, 24, MAX, MIN}) {
            deactivates(Refusal.NO_SUCH, World.OWNER, a);
        }
        deactivates(Refusal.UNSUPPORTED, World.OWNER, World.OTHERS);
        deactivates(Refusal.UNSUPPORTED, World.OWNER, World.CLOSED_ONES);
        deactivates(Refusal.UNSUPPORTED, World.OTHER, World.VALID);
        deactivates(Refusal.UNSUPPORTED, World.OTHER, World.EXPIRED);
        for (int a : new int[] {World.EXPIRED, World.INVALID, World.DEACTIVATED}) {
            deactivates(Refusal.STATE, World.OWNER, a);
        }
    }

    private static void deactivates(Class<? extends RuntimeException> want, int k, int a) {
        WORLD.afterSignature("deactivate of " + a, want, k, (c, by) -> c.deactivate(by, a));
    }

    private static void rollover() {
        for (int key : NO_KEYS) {
            WORLD.afterSignature("rollover to " + key, Refusal.ARGUMENT, World.OWNER,
                    (c, k) -> c.rollover(k, key, 0));
        }
        for (int key : new int[] {World.OWNER_KEY, World.OTHER_KEY, World.CLOSED_KEY}) {
            WORLD.afterSignature("rollover to a key that is had, " + key, Refusal.STATE,
                    World.OWNER, (c, k) -> c.rollover(k, key));
        }
    }

    private static void rolloverWithAWrongSecondSignature() {
        int[] keys = {World.FREE_KEY, World.OWNER_KEY, World.OTHER_KEY, World.CLOSED_KEY};
        for (int key : keys) {
            for (int sig2 : new int[] {-1, key, MAX, MIN}) {
                WORLD.afterSignature("rollover to " + key + " signed " + sig2, Refusal.UNSUPPORTED,
                        World.OWNER, (c, k) -> c.rollover(k, key, sig2));
            }
        }
    }

    private static void feed() {
        for (int n : new int[] {0, 9, -1, MAX, MIN}) {
            WORLD.answered("feed of " + n, 0, c -> c.x.feed(-1, n) ? 1 : 0);
        }
        for (int n = 1; n <= 8; n++) {
            int room = n - 1;
            int bytes = n;
            Refusal.inWorldWithText(new byte[96 - room])
                    .answered("feed of " + n, 0, c -> c.x.feed(-1, bytes) ? 1 : 0);
        }
    }

    private static void tick() {
        for (int n : new int[] {-1, 1001, MAX, MIN}) {
            WORLD.plain("tick of " + n, Refusal.ARGUMENT, c -> c.x.tick(n));
        }
    }

    private static void whatIsNotThere() {
        int[][] none = {
            {0, 3}, {1, World.NO_ORDER}, {2, World.NO_AUTHORIZATION},
            {3, 2 * World.NO_AUTHORIZATION}, {4, World.NO_CERTIFICATE},
            {0, -1}, {1, -1}, {2, -1}, {3, -1}, {4, -1}, {-1, 0}, {5, 0}
        };
        for (int[] one : none) {
            WORLD.plain("state of " + one[0] + ", " + one[1], Refusal.NO_SUCH,
                    c -> c.x.state(one[0], one[1]));
            WORLD.plain("detail of " + one[0] + ", " + one[1], Refusal.NO_SUCH,
                    c -> c.x.detail(one[0], one[1], 0));
        }
    }
}
