/**
 * Terms: "Whenever an order that is PENDING or READY has an authorization that is neither PENDING
 * nor VALID, it becomes INVALID; a PENDING one whose authorizations are all VALID becomes READY."
 */
public final class OrderRuleTest {
    private static final int PENDING = 0;
    private static final int READY = 1;
    private static final int PROCESSING = 2;
    private static final int VALID = 3;
    private static final int INVALID = 4;

    /** Something that takes an authorization out of PENDING or VALID. */
    private interface Spoiling {
        void of(Client c, int a);
    }

    public static void main(String[] args) {
        for (int names = 1; names <= 4; names++) {
            readyWithTheLastOne(names);
            for (int i = 0; i < names; i++) {
                spoiledWhilePending(names, i, (c, a) -> c.deactivate(0, a));
                spoiledWhilePending(names, i, OrderRuleTest::missThrice);
                spoiledWhilePending(names, i, (c, a) -> c.close(0));
                spoiledWhilePending(names, i, (c, a) -> c.x.tick(60));
                spoiledWhileReady(names, i, (c, a) -> c.deactivate(0, a));
                spoiledWhileReady(names, i, (c, a) -> c.close(0));
            }
            expiredWhileReady(names);
        }
        readyAtOnce();
        allThatShareIt();
        othersStay();
        invalidOnesStay();
        Check.end();
    }

    private static Client scene() {
        Client c = new Client(161);
        c.open(10807);
        c.open(12317);
        return c;
    }

    private static void missThrice(Client c, int a) {
        c.answer(0, a, 1);
        c.miss(a, 1);
        c.miss(a, 1);
        Check.due("after the second wrong one", c.x.state(1, 0), PENDING);
        c.miss(a, 1);
    }

    /** Whichever order they become VALID in. */
    private static void readyWithTheLastOne(int names) {
        for (int first = 0; first < names; first++) {
            Client c = scene();
            c.order(0, (1 << names) - 1, 60);
            for (int i = 0; i < names; i++) {
                Check.due("with " + i + " of " + names, c.x.state(1, 0), PENDING);
                c.prove(0, (first + i) % names);
            }
            Check.due("with all " + names, c.x.state(1, 0), READY);
        }
    }

    private static void spoiledWhilePending(int names, int a, Spoiling spoiling) {
        Client c = scene();
        c.order(0, (1 << names) - 1, 60);
        spoiling.of(c, a);
        Check.due("PENDING, " + a + " of " + names + " spoiled", c.x.state(1, 0), INVALID);
    }

    private static void spoiledWhileReady(int names, int a, Spoiling spoiling) {
        Client c = scene();
        c.ready(0, (1 << names) - 1, 60);
        spoiling.of(c, a);
        Check.due("READY, " + a + " of " + names + " spoiled", c.x.state(1, 0), INVALID);
    }

    /** The first one's time comes before the others' and before the order's. */
    private static void expiredWhileReady(int names) {
        Client c = scene();
        c.order(0, (1 << names) - 1, 60);
        c.prove(0, 0);
        c.x.tick(1);
        for (int a = 1; a < names; a++) {
            c.prove(0, a);
        }
        c.x.tick(38);
        Check.due("READY before its time, of " + names, c.x.state(1, 0), READY);
        c.x.tick(1);
        Check.due("READY when one is EXPIRED, of " + names, c.x.state(1, 0), INVALID);
    }

    private static void readyAtOnce() {
        Client c = scene();
        c.ready(0, 3, 60);
        Check.due("one that is VALID", c.x.state(1, c.order(0, 1, 5)), READY);
        Check.due("two that are VALID", c.x.state(1, c.order(0, 3, 5)), READY);
        Check.due("two that are VALID and a new one", c.x.state(1, c.order(0, 7, 5)), PENDING);
        c.prove(0, 2);
        Check.due("then with all three", c.x.state(1, 3), READY);
    }

    private static void allThatShareIt() {
        Client c = scene();
        c.certify(0, 16637, 0);
        c.x.publish();
        c.certify(0, 16637, 0);
        int ready = c.order(0, 1, 60);
        int pending = c.order(0, 3, 60);
        int without = c.ready(0, 4, 60);
        c.deactivate(0, 0);
        Check.due("VALID stays", c.x.state(1, 0), VALID);
        Check.due("PROCESSING stays", c.x.state(1, 1), PROCESSING);
        Check.due("READY is INVALID", c.x.state(1, ready), INVALID);
        Check.due("PENDING is INVALID", c.x.state(1, pending), INVALID);
        Check.due("one without it stays READY", c.x.state(1, without), READY);
        c.x.tick(40);
        Check.due("VALID stays when they are EXPIRED", c.x.state(1, 0), VALID);
        Check.due("PROCESSING stays when they are EXPIRED", c.x.state(1, 1), PROCESSING);
    }

    private static void othersStay() {
        Client c = scene();
        c.ready(0, 1, 60);
        c.ready(1, 1, 60);
        c.order(1, 2, 60);
        c.close(0);
        Check.due("another account's READY one", c.x.state(1, 1), READY);
        Check.due("another account's PENDING one", c.x.state(1, 2), PENDING);
    }

    /** Only a PENDING order becomes READY, even if all its authorizations are VALID. */
    private static void invalidOnesStay() {
        Client c = scene();
        c.ready(0, 1, 10);
        c.order(0, 3, 10);
        c.x.tick(10);
        c.order(0, 5, 10);
        c.prove(0, 2);
        Check.due("the authorization is VALID", c.x.state(2, 0), 1);
        Check.due("one whose time has come", c.x.state(1, 0), INVALID);
        Check.due("one whose time has come while PENDING", c.x.state(1, 1), INVALID);
        Check.due("a later one", c.x.state(1, 2), READY);
    }
}
