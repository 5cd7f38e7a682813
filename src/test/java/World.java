/** An authority in which each state that there is occurs; its constants tell where. */
final class World {
    static final int OWNER = 0;
    static final int OTHER = 1;
    static final int CLOSED = 2;
    static final int NO_ACCOUNT = 3;

    static final int OWNER_KEY = 10807;
    static final int OTHER_KEY = 12317;
    static final int CLOSED_KEY = 1147;
    static final int FREE_KEY = 16637;

    /** Orders of OWNER, but for the last, which is OTHER's and PENDING. */
    static final int EXPIRED_ORDER = 0;
    static final int VALID_ORDER = 2;
    static final int REVOKED_ORDER = 3;
    static final int PROCESSING_ORDER = 4;
    static final int READY_ORDER = 5;
    static final int PENDING_ORDER = 6;
    static final int INVALID_ORDER = 7;
    static final int DEACTIVATED_ORDER = 8;
    static final int OTHERS_ORDER = 9;
    static final int NO_ORDER = 10;
    static final int[] READY_NAMES = {1, 2};

    /** Authorizations of OWNER, but for CLOSED's and OTHER's, the latter PENDING. */
    static final int EXPIRED = 0;
    static final int CLOSED_ONES = 1;
    static final int VALID = 2;
    /** Its challenge 0 is VALID, its challenge 1 PROCESSING. */
    static final int VALID_BY_ONE = 5;
    /** Its challenge 0 is PROCESSING, with two wrong ones, its challenge 1 PENDING. */
    static final int PENDING = 7;
    /** Its challenge 0 is INVALID, its challenge 1 PROCESSING. */
    static final int INVALID = 8;
    /** Its challenge 0 is PROCESSING, its challenge 1 PENDING. */
    static final int DEACTIVATED = 9;
    static final int OTHERS = 10;
    static final int NO_AUTHORIZATION = 11;

    static final int GOOD_CERTIFICATE = 0;
    static final int REVOKED_CERTIFICATE = 1;
    /** One whose order is PROCESSING. */
    static final int FRESH_CERTIFICATE = 2;
    static final int NO_CERTIFICATE = 3;

    static final int SEED = 151;

    private World() {}

    /** The text is a request that fits READY_ORDER, and two nonces are out. */
    static Client make() {
        Client c = new Client(SEED);
        c.open(OWNER_KEY);
        c.open(OTHER_KEY);
        c.open(CLOSED_KEY);
        c.ready(OWNER, Sums.sum(0), 100);
        c.order(CLOSED, Sums.sum(1), 100);
        c.close(CLOSED);
        c.x.tick(40);
        makeCertificates(c);
        makeOpenOrders(c);
        c.nonce();
        c.nonce();
        return c;
    }

    private static void makeCertificates(Client c) {
        c.certify(OWNER, FREE_KEY, 6);
        c.certify(OWNER, FREE_KEY, 7);
        c.x.publish();
        c.revoke(OWNER, REVOKED_CERTIFICATE, 4);
        c.certify(OWNER, FREE_KEY, 5);
    }

    private static void makeOpenOrders(Client c) {
        c.order(OWNER, Sums.sum(READY_NAMES), 90);
        c.answer(OWNER, VALID_BY_ONE, 1);
        c.prove(OWNER, VALID_BY_ONE);
        c.prove(OWNER, VALID_BY_ONE + 1);
        c.order(OWNER, Sums.sum(3), 80);
        c.answer(OWNER, PENDING, 0);
        c.miss(PENDING, 0);
        c.miss(PENDING, 0);
        c.order(OWNER, Sums.sum(4), 70);
        c.answer(OWNER, INVALID, 0);
        c.answer(OWNER, INVALID, 1);
        for (int i = 0; i < 3; i++) {
            c.miss(INVALID, 0);
        }
        c.order(OWNER, Sums.sum(8), 60);
        c.answer(OWNER, DEACTIVATED, 0);
        c.deactivate(OWNER, DEACTIVATED);
        c.order(OTHER, Sums.sum(6), 50);
        c.text(Sums.request(FREE_KEY, READY_NAMES));
    }
}
