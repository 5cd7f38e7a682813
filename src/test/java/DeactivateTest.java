import java.util.NoSuchElementException;

/** Promise 12. */
public final class DeactivateTest {
    public static void main(String[] args) {
        oneAuthorization();
        ordersThatShareIt();
        theWholeAccount();
        whatThereIsNot();
        anothersAuthorization();
        whatIsNeitherPendingNorValid();
        Check.end();
    }

    private static void oneAuthorization() {
        Client c = new Client(111);
        c.open(10807);
        c.order(0, 3, 50);
        Check.due("a PENDING one", c.deactivate(0, 1), 1);
        Check.due("it is DEACTIVATED", c.x.state(2, 1), 3);
        Check.due("the other stays PENDING", c.x.state(2, 0), 0);
        Check.due("the order is INVALID", c.x.state(1, 0), 4);
        Check.due("the account stays OPEN", c.x.state(0, 0), 0);
        c.ready(0, 4, 50);
        Check.due("the next order is READY", c.x.state(1, 1), 1);
        Check.due("a VALID one", c.deactivate(0, 2), 1);
        Check.due("it is DEACTIVATED", c.x.state(2, 2), 3);
        Check.due("the READY order is INVALID", c.x.state(1, 1), 4);
        Check.due("the challenge stays VALID", c.x.state(3, 4), 2);
    }

    private static void ordersThatShareIt() {
        Client c = new Client(112);
        c.open(10807);
        c.certify(0, 16637, 1);
        c.x.publish();
        c.certify(0, 16637, 1);
        c.order(0, 2, 50);
        c.order(0, 6, 50);
        c.order(0, 8, 50);
        c.deactivate(0, 0);
        int[] states = {3, 2, 4, 4, 0};
        for (int o = 0; o < states.length; o++) {
            Check.due("state of order " + o, c.x.state(1, o), states[o]);
        }
    }

    /** "a = -1: the account becomes CLOSED, its PENDING and VALID authorizations DEACTIVATED" */
    private static void theWholeAccount() {
        Client c = new Client(113);
        c.open(10807);
        c.open(12317);
        c.ready(0, 1, 50);
        c.order(0, 6, 50);
        c.order(1, 1, 50);
        c.deactivate(0, 1);
        Check.due("a VALID and a PENDING one", c.close(0), 2);
        Check.due("the account is CLOSED", c.x.state(0, 0), 1);
        Check.due("the other is OPEN", c.x.state(0, 1), 0);
        for (int a = 0; a < 3; a++) {
            Check.due("authorization " + a, c.x.state(2, a), 3);
        }
        Check.due("the other account's", c.x.state(2, 3), 0);
        Check.due("READY became INVALID", c.x.state(1, 0), 4);
        Check.due("PENDING became INVALID", c.x.state(1, 1), 4);
        Check.due("the other account's", c.x.state(1, 2), 0);
        Check.due("an account with nothing", c.close(c.open(1147)), 0);
    }

    /** "no authorization a" */
    private static void whatThereIsNot() {
        Client c = new Client(114);
        c.open(10807);
        c.order(0, 3, 50);
        for (int a : new int[] {-2, 2, 24, Integer.MAX_VALUE, Integer.MIN_VALUE}) {
            Check.refuses("authorization " + a, NoSuchElementException.class,
                    () -> c.deactivate(0, a));
        }
    }

    /** "it is not the account's" */
    private static void anothersAuthorization() {
        Client c = new Client(115);
        c.open(10807);
        c.open(12317);
        c.order(0, 1, 50);
        Check.refuses("another's", UnsupportedOperationException.class, () -> c.deactivate(1, 0));
        Check.due("it stays PENDING", c.x.state(2, 0), 0);
        c.deactivate(0, 0);
        Check.refuses("another's, before the state", UnsupportedOperationException.class,
                () -> c.deactivate(1, 0));
    }

    /** "it is neither PENDING nor VALID" */
    private static void whatIsNeitherPendingNorValid() {
        Client c = new Client(116);
        c.open(10807);
        c.ready(0, 1, 50);
        c.order(0, 2, 50);
        c.order(0, 4, 50);
        c.deactivate(0, 2);
        c.x.tick(50);
        Check.due("EXPIRED", c.x.state(2, 0), 4);
        Check.due("INVALID", c.x.state(2, 1), 2);
        for (int a = 0; a < 3; a++) {
            int one = a;
            Check.refuses("authorization " + a, IllegalStateException.class,
                    () -> c.deactivate(0, one));
        }
        Check.due("EXPIRED stays", c.x.state(2, 0), 4);
        Check.due("INVALID stays", c.x.state(2, 1), 2);
        Check.due("none of them with the account", c.close(0), 0);
        Check.due("EXPIRED stays then too", c.x.state(2, 0), 4);
        Check.due("INVALID stays then too", c.x.state(2, 1), 2);
    }
}
