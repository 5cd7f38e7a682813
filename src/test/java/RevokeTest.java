import java.util.NoSuchElementException;

/** Promise 11. */
public final class RevokeTest {
    public static void main(String[] args) {
        theOwnerRevokes();
        whoeverHasTheNamesRevokes();
        everyNameCounts();
        whatThereIsNot();
        reasonsHaveBounds();
        ordersThatAreNotValid();
        whatIsLookedAtFirst();
        Check.end();
    }

    /** Account 0 has certificates 0 (names 1 and 2) and 1 (name 1); account 1 has nothing. */
    private static Client scene() {
        Client c = new Client(101);
        c.open(10807);
        c.open(12317);
        c.certify(0, 16637, 1, 2);
        c.certify(0, 16637, 1);
        c.x.publish();
        return c;
    }

    private static void theOwnerRevokes() {
        Client c = scene();
        Check.due("good ones that are left", c.revoke(0, 0, 10), 1);
        Check.due("it is REVOKED", c.x.state(4, 0), 1);
        Check.due("the reason", c.x.detail(4, 0, 4), 10);
        Check.due("the other is GOOD", c.x.state(4, 1), 0);
        Check.due("the other has no reason", c.x.detail(4, 1, 4), -1);
        Check.due("the order stays VALID", c.x.state(1, 0), 3);
        Check.due("it stays there", c.x.there(4), 2);
        Check.refuses("again", IllegalStateException.class, () -> c.revoke(0, 0, 3));
        Check.due("the reason stays", c.x.detail(4, 0, 4), 10);
        c.certify(0, 16637, 9);
        Check.due("one whose order is PROCESSING counts as good", c.revoke(0, 1, 0), 1);
        Check.due("reason 0", c.x.detail(4, 1, 4), 0);
        c.x.tick(1000);
        c.x.publish();
        Check.due("the owner needs no authorizations", c.revoke(0, 2, 1), 0);
    }

    /** "its order is another account's, and not for all its names ... VALID" */
    private static void whoeverHasTheNamesRevokes() {
        Client c = scene();
        Check.refuses("no names", UnsupportedOperationException.class, () -> c.revoke(1, 0, 0));
        c.ready(1, 2, 100);
        Check.refuses("one of two names", UnsupportedOperationException.class,
                () -> c.revoke(1, 0, 0));
        c.order(1, 4, 100);
        Check.refuses("the other is PENDING", UnsupportedOperationException.class,
                () -> c.revoke(1, 0, 0));
        int a = c.x.there(2) - 1;
        c.prove(1, a);
        Check.due("both names", c.revoke(1, 0, 5), 1);
        Check.due("the reason", c.x.detail(4, 0, 4), 5);
        c.x.tick(40);
        Check.refuses("when they are EXPIRED", UnsupportedOperationException.class,
                () -> c.revoke(1, 1, 0));
        c.ready(1, 2, 100);
        c.deactivate(1, c.x.there(2) - 1);
        Check.refuses("when it is DEACTIVATED", UnsupportedOperationException.class,
                () -> c.revoke(1, 1, 0));
    }

    /** "not for all its names": whichever of four is missing. */
    private static void everyNameCounts() {
        int[] names = {0, 7, 8, 15};
        for (int missing = 0; missing < names.length; missing++) {
            Client c = new Client(102);
            c.open(10807);
            c.open(12317);
            c.certify(0, 16637, names);
            c.x.publish();
            int all = Sums.sum(names);
            c.ready(1, all - (1 << names[missing]), 100);
            Check.refuses("without name " + names[missing], UnsupportedOperationException.class,
                    () -> c.revoke(1, 0, 0));
            c.ready(1, 1 << names[missing], 100);
            Check.due("with it too", c.revoke(1, 0, 0), 0);
        }
    }

    /** "no certificate c" */
    private static void whatThereIsNot() {
        Client c = scene();
        for (int one : new int[] {-1, 2, 12, Integer.MAX_VALUE, Integer.MIN_VALUE}) {
            Check.refuses("certificate " + one, NoSuchElementException.class,
                    () -> c.revoke(0, one, 0));
            Check.refuses("certificate " + one + " with a wrong reason",
                    NoSuchElementException.class, () -> c.revoke(0, one, 11));
        }
    }

    /** "reason is not 0 .. 10" */
    private static void reasonsHaveBounds() {
        Client c = scene();
        for (int reason : new int[] {-1, 11, Integer.MAX_VALUE, Integer.MIN_VALUE}) {
            Check.refuses("reason " + reason, IllegalArgumentException.class,
                    () -> c.revoke(0, 0, reason));
        }
        Check.due("it stays GOOD", c.x.state(4, 0), 0);
        Check.due("the lowest", c.revoke(0, 0, 0), 1);
        Check.due("it is told", c.x.detail(4, 0, 4), 0);
        Check.due("the highest", c.revoke(0, 1, 10), 0);
        Check.due("it is told", c.x.detail(4, 1, 4), 10);
    }

    /** "or its order not VALID" */
    private static void ordersThatAreNotValid() {
        Client c = scene();
        c.certify(0, 16637, 9);
        Check.refuses("its order is PROCESSING", IllegalStateException.class,
                () -> c.revoke(0, 2, 0));
        Check.due("it stays GOOD", c.x.state(4, 2), 0);
        c.x.publish();
        Check.due("its order is VALID", c.revoke(0, 2, 0), 2);
    }

    private static void whatIsLookedAtFirst() {
        Client c = scene();
        c.revoke(0, 0, 0);
        Check.refuses("another's, before the reason", UnsupportedOperationException.class,
                () -> c.revoke(1, 0, 11));
        Check.refuses("another's, before the state", UnsupportedOperationException.class,
                () -> c.revoke(1, 0, 0));
        Check.refuses("the reason, before the state", IllegalArgumentException.class,
                () -> c.revoke(0, 0, 11));
        c.certify(0, 16637, 9);
        Check.refuses("the reason, before the order", IllegalArgumentException.class,
                () -> c.revoke(0, 2, -1));
    }
}
