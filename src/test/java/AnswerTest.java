import java.util.NoSuchElementException;

/** Promise 7. */
public final class AnswerTest {
    public static void main(String[] args) {
        theChallengeBecomesProcessing();
        whatThereIsNot();
        anothersAuthorization();
        whatIsNotPending();
        Check.end();
    }

    private static Client scene() {
        Client c = new Client(51);
        c.open(10807);
        c.open(12317);
        c.order(0, 3, 50);
        c.order(1, 1, 50);
        return c;
    }

    private static void theChallengeBecomesProcessing() {
        Client c = scene();
        Check.due("its token", c.answer(0, 1, 1), c.x.detail(3, 3, 0));
        int[] states = {0, 0, 0, 1, 0, 0};
        for (int i = 0; i < states.length; i++) {
            Check.due("state of challenge " + i, c.x.state(3, i), states[i]);
        }
        Check.due("the other one's token", c.answer(0, 1, 0), c.x.detail(3, 2, 0));
        Check.due("both are PROCESSING", c.x.state(3, 2) + c.x.state(3, 3), 2);
        Check.due("the authorization stays PENDING", c.x.state(2, 1), 0);
        Check.due("the order stays PENDING", c.x.state(1, 0), 0);
    }

    /** "no authorization a or challenge which" */
    private static void whatThereIsNot() {
        Client c = scene();
        int[][] none = {
            {-1, 0}, {3, 0}, {24, 0}, {0, -1}, {0, 2}, {2, 2}, {2, -1},
            {Integer.MAX_VALUE, 0}, {Integer.MIN_VALUE, 1}, {1, Integer.MIN_VALUE}, {1 << 31, 0}
        };
        for (int[] one : none) {
            Check.refuses("answer " + one[0] + ", " + one[1], NoSuchElementException.class,
                    () -> c.answer(0, one[0], one[1]));
        }
    }

    /** "it is not the account's" */
    private static void anothersAuthorization() {
        Client c = scene();
        Check.refuses("another's", UnsupportedOperationException.class, () -> c.answer(0, 2, 0));
        Check.due("it stays PENDING", c.x.state(3, 4), 0);
        c.deactivate(1, 2);
        Check.refuses("another's, before its state", UnsupportedOperationException.class,
                () -> c.answer(0, 2, 0));
        Check.refuses("its own", IllegalStateException.class, () -> c.answer(1, 2, 0));
    }

    /** "it, or the challenge, is not PENDING" */
    private static void whatIsNotPending() {
        Client c = scene();
        c.answer(0, 0, 0);
        Check.refuses("PROCESSING", IllegalStateException.class, () -> c.answer(0, 0, 0));
        c.meet(0, 0);
        Check.refuses("VALID", IllegalStateException.class, () -> c.answer(0, 0, 0));
        Check.refuses("PENDING one of a VALID authorization", IllegalStateException.class,
                () -> c.answer(0, 0, 1));
        c.answer(0, 1, 0);
        for (int i = 0; i < 3; i++) {
            c.miss(1, 0);
        }
        Check.refuses("INVALID", IllegalStateException.class, () -> c.answer(0, 1, 0));
        Check.refuses("PENDING one of an INVALID authorization", IllegalStateException.class,
                () -> c.answer(0, 1, 1));
        c.x.tick(50);
        Check.refuses("one whose time has come", IllegalStateException.class,
                () -> c.answer(1, 2, 0));
    }
}
