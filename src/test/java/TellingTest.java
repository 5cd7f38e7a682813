import java.util.NoSuchElementException;

/** Promises 18, 19 and 20. */
public final class TellingTest {
    private static final int FAR = 1000;

    public static void main(String[] args) {
        thereCounts(scene());
        statesAreTold(scene());
        detailsAreTold(scene());
        whatThereIsNot(scene());
        anotherWhat(scene());
        Check.end();
    }

    /** Accounts 0, 1, 2 (CLOSED), six orders, two certificates, three nonces, time 9. */
    private static Client scene() {
        Client c = new Client(141);
        c.open(10807);
        c.open(12317);
        c.open(1147);
        c.x.tick(4);
        c.certify(0, 16637, 1, 2, 3);
        c.certify(1, 32767, 0);
        c.x.publish();
        c.revoke(0, 0, 7);
        c.x.tick(5);
        c.certify(0, 1001, 15);
        c.ready(1, 16, 60);
        c.order(2, 32, 70);
        c.close(2);
        c.order(0, 12352, 80);
        c.answer(0, 7, 1);
        c.miss(7, 1);
        c.miss(7, 1);
        c.x.nonce();
        c.x.nonce();
        c.x.nonce();
        return c;
    }

    private static void thereCounts(Client c) {
        int[] counts = {3, 6, 10, 3, 3};
        for (int kind = 0; kind < counts.length; kind++) {
            Check.due("there(" + kind + ")", c.x.there(kind), counts[kind]);
        }
        for (int kind : new int[] {-1, 5, 6, Integer.MAX_VALUE, Integer.MIN_VALUE}) {
            Check.due("there(" + kind + ")", c.x.there(kind), 0);
        }
    }

    private static void statesAreTold(Client c) {
        int[][] states = {
            {0, 0, 1},
            {3, 3, 2, 1, 4, 0},
            {1, 1, 1, 1, 1, 1, 3, 0, 0, 0},
            {2, 0, 2, 0, 2, 0, 2, 0, 2, 0, 2, 0, 0, 0, 0, 1, 0, 0, 0, 0},
            {1, 0, 0}
        };
        for (int kind = 0; kind < states.length; kind++) {
            for (int k = 0; k < states[kind].length; k++) {
                Check.due("state(" + kind + ", " + k + ")", c.x.state(kind, k), states[kind][k]);
            }
        }
    }

    private static void detailsAreTold(Client c) {
        told(c, 0, 0, 10807, 3);
        told(c, 0, 1, 12317, 2);
        told(c, 0, 2, 1147, 1);
        told(c, 1, 0, 0, 14, 104, 0, 3, 0, 1, 2, -1);
        told(c, 1, 1, 1, 1, 104, 1, 1, 3, -1, -1, -1);
        told(c, 1, 2, 0, 32768, 109, 2, 1, 4, -1, -1, -1);
        told(c, 1, 3, 1, 16, 69, -1, 1, 5, -1, -1, -1);
        told(c, 1, 5, 0, 12352, 89, -1, 3, 7, 8, 9, -1);
        told(c, 2, 0, 0, 1, 44);
        told(c, 2, 3, 1, 0, 44);
        told(c, 2, 4, 0, 15, 49);
        told(c, 2, 6, 2, 5, 79);
        told(c, 2, 9, 0, 13, 89);
        Check.due("wrong ones of challenge 1 of 7", c.x.detail(3, 15, 1), 2);
        Check.due("wrong ones of challenge 0 of 7", c.x.detail(3, 14, 1), 0);
        told(c, 4, 0, 0, 14, 16637, 4, 7);
        told(c, 4, 1, 1, 1, 32767, 4, -1);
        told(c, 4, 2, 2, 32768, 1001, 9, -1);
    }

    private static void told(Client c, int kind, int k, int... details) {
        for (int what = 0; what < details.length; what++) {
            String call = "detail(" + kind + ", " + k + ", " + what + ")";
            Check.due(call, c.x.detail(kind, k, what), details[what]);
        }
    }

    private static void whatThereIsNot(Client c) {
        int[] behind = {3, 6, 10, 20, 3};
        for (int kind = 0; kind < behind.length; kind++) {
            for (int k : new int[] {-1, behind[kind], FAR, Integer.MAX_VALUE, Integer.MIN_VALUE}) {
                noSuch(c, kind, k);
            }
        }
        for (int kind : new int[] {-1, 5, Integer.MAX_VALUE, Integer.MIN_VALUE}) {
            noSuch(c, kind, 0);
        }
    }

    private static void noSuch(Client c, int kind, int k) {
        Check.refuses("state(" + kind + ", " + k + ")", NoSuchElementException.class,
                () -> c.x.state(kind, k));
        Check.refuses("detail(" + kind + ", " + k + ", 0)", NoSuchElementException.class,
                () -> c.x.detail(kind, k, 0));
        Check.refuses("detail(" + kind + ", " + k + ", -1)", NoSuchElementException.class,
                () -> c.x.detail(kind, k, -1));
    }

    private static void anotherWhat(Client c) {
        int[] behind = {2, 9, 3, 2, 5};
        for (int kind = 0; kind < behind.length; kind++) {
            for (int what : new int[] {-1, behind[kind], FAR, Integer.MAX_VALUE, Integer.MIN_VALUE}) {
                Check.due("detail(" + kind + ", 0, " + what + ")", c.x.detail(kind, 0, what), -1);
            }
        }
    }
}
