/** Promise 17. */
public final class TickTest {
    /** How far behind the time to expire a tick goes. */
    private static final int[] AHEAD = {-1, 0, 1, 900};

    public static void main(String[] args) {
        theTimeGrows();
        theTimeGrowsFar();
        aPendingAuthorizationsTimeComes();
        aValidAuthorizationsTimeComes();
        aReadyOrdersTimeComes();
        aPendingOrdersTimeComes();
        pendingOnesBecomeInvalid();
        validOnesBecomeExpired();
        readyOrdersEndAtTheirOwnTime();
        whatIsDoneStays();
        Check.end();
    }

    /** "n is not 0 .. 1000" */
    private static void theTimeGrows() {
        ChallengeAuthority x = new ChallengeAuthority(1);
        Check.due("by 0", x.tick(0), 0);
        Check.due("by 1000", x.tick(1000), 1000);
        Check.due("by 7", x.tick(7), 1007);
        for (int n : new int[] {-1, 1001, Integer.MAX_VALUE, Integer.MIN_VALUE}) {
            Check.refuses("by " + n, IllegalArgumentException.class, () -> x.tick(n));
        }
        Check.due("it stays", x.tick(0), 1007);
    }

    /** As far as the calls of one object go, and what is made then ends in its time. */
    private static void theTimeGrowsFar() {
        Client c = new Client(135);
        c.open(10807);
        for (int i = 1; i <= 480; i++) {
            Check.due("by 1000 again", c.x.tick(1000), 1000 * i);
        }
        c.order(0, 1, 100);
        Check.due("its end", c.x.detail(1, 0, 2), 480100);
        c.x.tick(99);
        Check.due("before its time", c.x.state(1, 0), 0);
        c.x.tick(1);
        Check.due("at its time", c.x.state(1, 0), 4);
    }

    /** "whose time to expire has come (is not later than the time)": one before, at, and behind. */
    private static void aPendingAuthorizationsTimeComes() {
        for (int life : new int[] {1, 2, 100}) {
            for (int ahead : AHEAD) {
                Client c = new Client(136);
                c.open(10807);
                c.x.tick(5);
                c.order(0, 3, life);
                c.x.tick(life + ahead);
                String what = " at " + ahead + " of its life of " + life;
                Check.due("authorization" + what, c.x.state(2, 0), ahead < 0 ? 0 : 2);
                Check.due("the second one" + what, c.x.state(2, 1), ahead < 0 ? 0 : 2);
                Check.due("order" + what, c.x.state(1, 0), ahead < 0 ? 0 : 4);
            }
        }
    }

    private static void aValidAuthorizationsTimeComes() {
        for (int ahead : AHEAD) {
            Client c = new Client(137);
            c.open(10807);
            c.x.tick(5);
            c.ready(0, 1, 100);
            c.x.tick(40 + ahead);
            Check.due("authorization at " + ahead, c.x.state(2, 0), ahead < 0 ? 1 : 4);
            Check.due("order at " + ahead, c.x.state(1, 0), ahead < 0 ? 1 : 4);
        }
    }

    /** Its authorization is VALID for longer than the order is there. */
    private static void aReadyOrdersTimeComes() {
        for (int ahead : new int[] {-1, 0, 1}) {
            Client c = new Client(138);
            c.open(10807);
            c.x.tick(5);
            c.ready(0, 1, 20);
            c.x.tick(20 + ahead);
            Check.due("order at " + ahead, c.x.state(1, 0), ahead < 0 ? 1 : 4);
            Check.due("authorization at " + ahead, c.x.state(2, 0), 1);
        }
    }

    /** One of its authorizations is VALID for longer than the order is there. */
    private static void aPendingOrdersTimeComes() {
        for (int ahead : new int[] {-1, 0, 1}) {
            Client c = new Client(139);
            c.open(10807);
            c.order(0, 3, 20);
            c.prove(0, 1);
            c.x.tick(20 + ahead);
            Check.due("order at " + ahead, c.x.state(1, 0), ahead < 0 ? 0 : 4);
            Check.due("its PENDING one at " + ahead, c.x.state(2, 0), ahead < 0 ? 0 : 2);
            Check.due("its VALID one at " + ahead, c.x.state(2, 1), 1);
        }
    }

    private static void pendingOnesBecomeInvalid() {
        Client c = new Client(131);
        c.open(10807);
        c.x.tick(2);
        c.order(0, 3, 10);
        c.order(0, 4, 11);
        c.x.tick(9);
        Check.due("before its time", c.x.state(1, 0), 0);
        Check.due("its authorization", c.x.state(2, 0), 0);
        c.x.tick(1);
        Check.due("at its time", c.x.state(1, 0), 4);
        Check.due("its authorizations", c.x.state(2, 0), 2);
        Check.due("both", c.x.state(2, 1), 2);
        Check.due("their challenges stay", c.x.state(3, 0), 0);
        Check.due("the later order", c.x.state(1, 1), 0);
        Check.due("its authorization", c.x.state(2, 2), 0);
        c.x.tick(1000);
        Check.due("long after its time", c.x.state(1, 1), 4);
    }

    private static void validOnesBecomeExpired() {
        Client c = new Client(132);
        c.open(10807);
        c.order(0, 3, 100);
        c.x.tick(5);
        c.prove(0, 0);
        c.x.tick(1);
        c.prove(0, 1);
        Check.due("READY", c.x.state(1, 0), 1);
        c.x.tick(38);
        Check.due("VALID before its time", c.x.state(2, 0), 1);
        Check.due("READY before its time", c.x.state(1, 0), 1);
        c.x.tick(1);
        Check.due("EXPIRED at its time", c.x.state(2, 0), 4);
        Check.due("the other stays VALID", c.x.state(2, 1), 1);
        Check.due("the order is INVALID", c.x.state(1, 0), 4);
        c.order(0, 3, 100);
        Check.due("one that is VALID is taken again", c.x.detail(1, 1, 6), 1);
        c.x.tick(1);
        Check.due("then it is EXPIRED", c.x.state(2, 1), 4);
        Check.due("a PENDING order is INVALID", c.x.state(1, 1), 4);
        Check.due("its PENDING authorization stays", c.x.state(2, 2), 0);
    }

    private static void readyOrdersEndAtTheirOwnTime() {
        Client c = new Client(133);
        c.open(10807);
        c.ready(0, 1, 10);
        c.x.tick(9);
        Check.due("READY", c.x.state(1, 0), 1);
        c.x.tick(1);
        Check.due("INVALID", c.x.state(1, 0), 4);
        Check.due("its authorization stays VALID", c.x.state(2, 0), 1);
        int again = c.order(0, 1, 10);
        Check.due("the next order is READY", c.x.state(1, again), 1);
    }

    private static void whatIsDoneStays() {
        Client c = new Client(134);
        c.open(10807);
        c.certify(0, 16637, 1);
        c.x.publish();
        c.certify(0, 16637, 2);
        c.order(0, 8, 1);
        c.deactivate(0, c.x.detail(1, 2, 5));
        c.x.tick(1000);
        Check.due("VALID stays", c.x.state(1, 0), 3);
        Check.due("PROCESSING stays", c.x.state(1, 1), 2);
        Check.due("DEACTIVATED stays", c.x.state(2, 2), 3);
        Check.due("GOOD stays", c.x.state(4, 0), 0);
        Check.due("the account stays OPEN", c.x.state(0, 0), 0);
    }
}
