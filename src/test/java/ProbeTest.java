import java.util.NoSuchElementException;

/** Promise 8. */
public final class ProbeTest {
    public static void main(String[] args) {
        aRightOneMakesValid();
        bothChallengesWillDo();
        theThirdWrongOneMakesInvalid();
        wrongOnesAreCountedForEachChallenge();
        thePresentKeyCounts();
        whatThereIsNot();
        whatIsNotProcessingOrPending();
        Check.end();
    }

    private static Client scene() {
        Client c = new Client(61);
        c.open(10807);
        c.order(0, 3, 50);
        return c;
    }

    private static void aRightOneMakesValid() {
        Client c = scene();
        c.x.tick(7);
        c.answer(0, 0, 0);
        Check.due("the state", c.meet(0, 0), 1);
        Check.due("the authorization is VALID", c.x.state(2, 0), 1);
        Check.due("the challenge is VALID", c.x.state(3, 0), 2);
        Check.due("the other challenge stays PENDING", c.x.state(3, 1), 0);
        Check.due("it expires", c.x.detail(2, 0, 2), 47);
        Check.due("the other authorization's end stays", c.x.detail(2, 1, 2), 50);
        Check.due("wrong ones", c.x.detail(3, 0, 1), 0);
        Check.due("the order stays PENDING", c.x.state(1, 0), 0);
        c.prove(0, 1);
        Check.due("the order is READY", c.x.state(1, 0), 1);
    }

    private static void bothChallengesWillDo() {
        Client c = scene();
        c.answer(0, 0, 0);
        c.answer(0, 0, 1);
        int tokenOfOther = Sums.digest(8, c.x.detail(3, 0, 0), 10807, 0, 0);
        Check.answers("the other one's token", 0, () -> c.x.probe(0, 1, tokenOfOther));
        Check.due("challenge 1", c.meet(0, 1), 1);
        Check.due("it is VALID", c.x.state(3, 1), 2);
        Check.due("its wrong one stays counted", c.x.detail(3, 1, 1), 1);
        Check.due("challenge 0 stays PROCESSING", c.x.state(3, 0), 1);
        Check.refuses("challenge 0 then", IllegalStateException.class, () -> c.meet(0, 0));
    }

    private static void theThirdWrongOneMakesInvalid() {
        Client c = scene();
        c.answer(0, 0, 0);
        for (int wrong = 1; wrong <= 2; wrong++) {
            Check.due("wrong one " + wrong, c.miss(0, 0), 0);
            Check.due("so many wrong ones", c.x.detail(3, 0, 1), wrong);
            Check.due("the challenge stays PROCESSING", c.x.state(3, 0), 1);
        }
        Check.due("the order stays PENDING", c.x.state(1, 0), 0);
        Check.due("the third", c.miss(0, 0), 2);
        Check.due("so many wrong ones", c.x.detail(3, 0, 1), 3);
        Check.due("the challenge is INVALID", c.x.state(3, 0), 3);
        Check.due("the other challenge stays PENDING", c.x.state(3, 1), 0);
        Check.due("the authorization is INVALID", c.x.state(2, 0), 2);
        Check.due("the order is INVALID", c.x.state(1, 0), 4);
        Check.due("the other authorization stays PENDING", c.x.state(2, 1), 0);
        c.prove(0, 1);
        Check.due("the order stays INVALID", c.x.state(1, 0), 4);
    }

    private static void wrongOnesAreCountedForEachChallenge() {
        Client c = scene();
        c.answer(0, 0, 0);
        c.answer(0, 0, 1);
        Check.due("one", c.miss(0, 0), 0);
        Check.due("two", c.miss(0, 0), 0);
        Check.due("one of the other", c.miss(0, 1), 0);
        Check.due("two of the other", c.miss(0, 1), 0);
        Check.due("then a right one", c.meet(0, 0), 1);
    }

    private static void thePresentKeyCounts() {
        Client c = scene();
        c.answer(0, 0, 0);
        int before = c.due(0, 0);
        c.rollover(0, 12317);
        Check.answers("with the key before", 0, () -> c.x.probe(0, 0, before));
        Check.due("with the present key", c.meet(0, 0), 1);
    }

    private static void whatThereIsNot() {
        Client c = scene();
        int[][] none = {
            {-1, 0}, {2, 0}, {24, 1}, {0, -1}, {0, 2}, {1, 2}, {1, -1},
            {Integer.MAX_VALUE, 0}, {Integer.MIN_VALUE, 0}, {1, Integer.MAX_VALUE}
        };
        for (int[] one : none) {
            Check.refuses("probe " + one[0] + ", " + one[1], NoSuchElementException.class,
                    () -> c.x.probe(one[0], one[1], 0));
        }
    }

    private static void whatIsNotProcessingOrPending() {
        Client c = scene();
        Check.refuses("PENDING challenge", IllegalStateException.class, () -> c.meet(0, 0));
        Check.refuses("PENDING challenge, wrong", IllegalStateException.class, () -> c.miss(0, 0));
        Check.due("not counted", c.x.detail(3, 0, 1), 0);
        c.prove(0, 0);
        Check.refuses("VALID challenge", IllegalStateException.class, () -> c.meet(0, 0));
        c.answer(0, 1, 0);
        c.deactivate(0, 1);
        Check.due("still PROCESSING", c.x.state(3, 2), 1);
        Check.refuses("DEACTIVATED authorization", IllegalStateException.class, () -> c.meet(1, 0));
        Check.due("still DEACTIVATED", c.x.state(2, 1), 3);
    }
}
