import java.util.NoSuchElementException;

/** Promises 18, 19 and 20. */
public final class TellingTest {
    private static final int FAR = 1000;

    public static void main(String[] args) {
        thereCounts(scene());
        statesAreTold(scene());
        detailsAreTold(scene());
        whatThereIsNot(scene());
        anotherWhat(scene());
        authorizationsOfOrders();
        whenAllIsFull(full());
        askingChangesNothing();
        Check.end();
    }

    /** Accounts 0, 1, 2 (CLOSED), six orders, two certificates, three nonces, time 9. */
    private static Client scene() {
        Client c = new Client(141);
        c.open(10807);
        c.open(12317);
        c.open(1147);
        c.x.tick(4);
        c.certify(0, 16637, 1, 2, 3);
        c.certify(1, 32767, 0);
        c.x.publish();
        c.revoke(0, 0, 7);
        c.x.tick(5);
        c.certify(0, 1001, 15);
        c.ready(1, 16, 60);
        c.order(2, 32, 70);
        c.close(2);
        c.order(0, 12352, 80);
        c.answer(0, 7, 1);
        c.miss(7, 1);
        c.miss(7, 1);
        c.x.nonce();
        c.x.nonce();
        c.x.nonce();
        return c;
    }

    /** "0 for another kind" */
    private static void thereCounts(Client c) {
        int[] counts = {3, 6, 10, 3, 3};
        for (int kind = 0; kind < counts.length; kind++) {
            Check.due("there(" + kind + ")", c.x.there(kind), counts[kind]);
        }
        for (int kind : new int[] {-1, 5, 6, Integer.MAX_VALUE, Integer.MIN_VALUE}) {
            Check.due("there(" + kind + ")", c.x.there(kind), 0);
        }
    }

    private static void statesAreTold(Client c) {
        int[][] states = {
            {0, 0, 1},
            {3, 3, 2, 1, 4, 0},
            {1, 1, 1, 1, 1, 1, 3, 0, 0, 0},
            {2, 0, 2, 0, 2, 0, 2, 0, 2, 0, 2, 0, 0, 0, 0, 1, 0, 0, 0, 0},
            {1, 0, 0}
        };
        for (int kind = 0; kind < states.length; kind++) {
            for (int k = 0; k < states[kind].length; k++) {
                Check.due("state(" + kind + ", " + k + ")", c.x.state(kind, k), states[kind][k]);
            }
        }
    }

    private static void detailsAreTold(Client c) {
        told(c, 0, 0, 10807, 3);
        told(c, 0, 1, 12317, 2);
        told(c, 0, 2, 1147, 1);
        told(c, 1, 0, 0, 14, 104, 0, 3, 0, 1, 2, -1);
        told(c, 1, 1, 1, 1, 104, 1, 1, 3, -1, -1, -1);
        told(c, 1, 2, 0, 32768, 109, 2, 1, 4, -1, -1, -1);
        told(c, 1, 3, 1, 16, 69, -1, 1, 5, -1, -1, -1);
        told(c, 1, 5, 0, 12352, 89, -1, 3, 7, 8, 9, -1);
        told(c, 2, 0, 0, 1, 44);
        told(c, 2, 3, 1, 0, 44);
        told(c, 2, 4, 0, 15, 49);
        told(c, 2, 6, 2, 5, 79);
        told(c, 2, 9, 0, 13, 89);
        Check.due("wrong ones of challenge 1 of 7", c.x.detail(3, 15, 1), 2);
        Check.due("wrong ones of challenge 0 of 7", c.x.detail(3, 14, 1), 0);
        told(c, 4, 0, 0, 14, 16637, 4, 7);
        told(c, 4, 1, 1, 1, 32767, 4, -1);
        told(c, 4, 2, 2, 32768, 1001, 9, -1);
    }

    private static void told(Client c, int kind, int k, int... details) {
        for (int what = 0; what < details.length; what++) {
            String call = "detail(" + kind + ", " + k + ", " + what + ")";
            Check.due(call, c.x.detail(kind, k, what), details[what]);
        }
    }

    /** "there is none", "there is no such k" */
    private static void whatThereIsNot(Client c) {
        int[] behind = {3, 6, 10, 20, 3};
        for (int kind = 0; kind < behind.length; kind++) {
            for (int k : new int[] {-1, behind[kind], FAR, Integer.MAX_VALUE, Integer.MIN_VALUE}) {
                noSuch(c, kind, k);
            }
        }
        for (int kind : new int[] {-1, 5, Integer.MAX_VALUE, Integer.MIN_VALUE}) {
            noSuch(c, kind, 0);
        }
    }

    private static void noSuch(Client c, int kind, int k) {
        Check.refuses("state(" + kind + ", " + k + ")", NoSuchElementException.class,
                () -> c.x.state(kind, k));
        Check.refuses("detail(" + kind + ", " + k + ", 0)", NoSuchElementException.class,
                () -> c.x.detail(kind, k, 0));
        Check.refuses("detail(" + kind + ", " + k + ", -1)", NoSuchElementException.class,
                () -> c.x.detail(kind, k, -1));
    }

    /** "4 how many authorizations, 5 .. 8 these": for each number of them. */
    private static void authorizationsOfOrders() {
        Client c = new Client(142);
        c.open(10807);
        int first = 0;
        for (int many = 1; many <= 4; many++) {
            int o = c.order(0, (1 << many) - 1, 50);
            Check.due("how many", c.x.detail(1, o, 4), many);
            for (int i = 0; i <= 4; i++) {
                Check.due("authorization " + i + " of " + many, c.x.detail(1, o, 5 + i),
                        i < many ? first + i : -1);
            }
            first += many;
        }
    }

    /** Six accounts with two orders each, all of them with two authorizations and a certificate. */
    private static Client full() {
        Client c = new Client(143);
        for (int k = 0; k < 6; k++) {
            c.open(Sums.KEYS[k]);
            c.certify(k, Sums.KEYS[6], 0, 1);
            c.certify(k, Sums.KEYS[7], 14, 15);
        }
        return c;
    }

    private static void whenAllIsFull(Client c) {
        int[] last = {5, 11, 23, 47, 11};
        int[] states = {0, 2, 1, 0, 0};
        for (int kind = 0; kind < last.length; kind++) {
            Check.due("the last of kind " + kind, c.x.state(kind, last[kind]), states[kind]);
            noSuch(c, kind, last[kind] + 1);
            noSuch(c, kind, -1);
        }
        int[] counts = {6, 12, 24, 0, 12};
        for (int kind = 0; kind < counts.length; kind++) {
            Check.due("there(" + kind + ")", c.x.there(kind), counts[kind]);
        }
        told(c, 0, 5, Sums.KEYS[5], 2);
        told(c, 1, 11, 5, 49152, 100, 11, 2, 22, 23, -1, -1);
        told(c, 2, 23, 5, 15, 40);
        told(c, 4, 11, 11, 49152, Sums.KEYS[7], 0, -1);
    }

    private static void askingChangesNothing() {
        Refusal world = Refusal.inWorld();
        for (int kind = -1; kind <= 5; kind++) {
            int of = kind;
            world.answered("there(" + kind + ")", World.make().x.there(kind), c -> c.x.there(of));
        }
        world.answered("state", 1, c -> c.x.state(1, World.READY_ORDER));
        world.answered("detail", World.OTHER_KEY, c -> c.x.detail(0, World.OTHER, 0));
        world.answered("csr", World.make().x.csr(), c -> c.x.csr());
        world.answered("power", 8, c -> c.x.power(2, 3, 1147));
        world.answered("digest", 1089553570, c -> c.x.digest(1, 2, 3, 4, 5));
        world.answered("tick by nothing", 40, c -> c.x.tick(0));
    }

    /** "-1 for another what" */
    private static void anotherWhat(Client c) {
        int[] behind = {2, 9, 3, 2, 5};
        for (int kind = 0; kind < behind.length; kind++) {
            for (int what : new int[] {-1, behind[kind], FAR, Integer.MAX_VALUE, Integer.MIN_VALUE}) {
                Check.due("detail(" + kind + ", 0, " + what + ")", c.x.detail(kind, 0, what), -1);
            }
        }
    }
}
