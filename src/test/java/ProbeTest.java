/** Promise 8; RefusedCallsTest looks at what it throws. */
public final class ProbeTest {
    public static void main(String[] args) {
        aRightOneMakesValid();
        bothChallengesWillDo();
        theThirdWrongOneMakesInvalid();
        wrongOnesAreCountedForEachChallenge();
        thePresentKeyCounts();
        whatIsNearlyRightIsWrong();
        validOnesLastForty();
        Check.end();
    }

    private static Client scene() {
        Client c = new Client(61);
        c.open(10807);
        c.order(0, 3, 50);
        return c;
    }

    private static void aRightOneMakesValid() {
        Client c = scene();
        c.x.tick(7);
        c.answer(0, 0, 0);
        Check.due("the state", c.meet(0, 0), 1);
        Check.due("the authorization is VALID", c.x.state(2, 0), 1);
        Check.due("the challenge is VALID", c.x.state(3, 0), 2);
        Check.due("the other challenge stays PENDING", c.x.state(3, 1), 0);
        Check.due("it expires", c.x.detail(2, 0, 2), 47);
        Check.due("the other authorization's end stays", c.x.detail(2, 1, 2), 50);
        Check.due("wrong ones", c.x.detail(3, 0, 1), 0);
        Check.due("the order stays PENDING", c.x.state(1, 0), 0);
        c.prove(0, 1);
        Check.due("the order is READY", c.x.state(1, 0), 1);
    }

    private static void bothChallengesWillDo() {
        Client c = scene();
        c.answer(0, 0, 0);
        c.answer(0, 0, 1);
        int tokenOfOther = Sums.digest(8, c.x.detail(3, 0, 0), 10807, 0, 0);
        Check.answers("the other one's token", 0, () -> c.x.probe(0, 1, tokenOfOther));
        Check.due("challenge 1", c.meet(0, 1), 1);
        Check.due("it is VALID", c.x.state(3, 1), 2);
        Check.due("its wrong one stays counted", c.x.detail(3, 1, 1), 1);
        Check.due("challenge 0 stays PROCESSING", c.x.state(3, 0), 1);
        Check.refuses("challenge 0 then", IllegalStateException.class, () -> c.meet(0, 0));
    }

    /** "with the third for this challenge this and the authorization become INVALID" */
    private static void theThirdWrongOneMakesInvalid() {
        Client c = scene();
        c.answer(0, 0, 0);
        for (int wrong = 1; wrong <= 2; wrong++) {
            Check.due("wrong one " + wrong, c.miss(0, 0), 0);
            Check.due("so many wrong ones", c.x.detail(3, 0, 1), wrong);
            Check.due("the challenge stays PROCESSING", c.x.state(3, 0), 1);
        }
        Check.due("the order stays PENDING", c.x.state(1, 0), 0);
        Check.due("the third", c.miss(0, 0), 2);
        Check.due("so many wrong ones", c.x.detail(3, 0, 1), 3);
        Check.due("the challenge is INVALID", c.x.state(3, 0), 3);
        Check.due("the other challenge stays PENDING", c.x.state(3, 1), 0);
        Check.due("the authorization is INVALID", c.x.state(2, 0), 2);
        Check.due("the order is INVALID", c.x.state(1, 0), 4);
        Check.due("the other authorization stays PENDING", c.x.state(2, 1), 0);
        c.prove(0, 1);
        Check.due("the order stays INVALID", c.x.state(1, 0), 4);
    }

    /** "for this challenge" */
    private static void wrongOnesAreCountedForEachChallenge() {
        Client c = scene();
        c.answer(0, 0, 0);
        c.answer(0, 0, 1);
        Check.due("one", c.miss(0, 0), 0);
        Check.due("two", c.miss(0, 0), 0);
        Check.due("one of the other", c.miss(0, 1), 0);
        Check.due("two of the other", c.miss(0, 1), 0);
        Check.due("then a right one", c.meet(0, 0), 1);
    }

    /** "the present key of the account" */
    private static void thePresentKeyCounts() {
        Client c = scene();
        c.answer(0, 0, 0);
        int before = c.due(0, 0);
        c.rollover(0, 12317);
        Check.answers("with the key before", 0, () -> c.x.probe(0, 0, before));
        Check.due("with the present key", c.meet(0, 0), 1);
    }

    /** "If found is the digest ...": nothing that is nearly so will do. */
    private static void whatIsNearlyRightIsWrong() {
        Client same = scene();
        int token = same.x.detail(3, 0, 0);
        int right = same.due(0, 0);
        int[] wrong = {
            right + 1, right - 1, right | Integer.MIN_VALUE, right % 10807, 0, -1, token,
            Sums.digest(8, token, 10807), Sums.digest(8, token, 0, 0, 0),
            Sums.digest(8, 10807, token, 0, 0), Sums.digest(7, token, 10807, 0, 0),
            Sums.digest(8, token, 10807, 0, 1), Sums.digest(8, token, 10807, 1, 0)
        };
        for (int found : wrong) {
            Client c = scene();
            c.answer(0, 0, 0);
            Check.answers("found " + found, 0, () -> c.x.probe(0, 0, found));
            Check.due("it is a wrong one", c.x.detail(3, 0, 1), 1);
        }
    }

    /** "it expires at the time + 40", be that later than before, or sooner. */
    private static void validOnesLastForty() {
        for (int life : new int[] {1, 39, 40, 41, 100}) {
            Client c = new Client(62);
            c.open(10807);
            c.x.tick(3);
            c.order(0, 1, life);
            Check.due("before", c.x.detail(2, 0, 2), 3 + life);
            c.prove(0, 0);
            Check.due("after a life of " + life, c.x.detail(2, 0, 2), 43);
            Check.due("the order's end stays", c.x.detail(1, 0, 2), 3 + life);
            c.x.tick(39);
            Check.due("VALID at 42", c.x.state(2, 0), 1);
            c.x.tick(1);
            Check.due("EXPIRED at 43", c.x.state(2, 0), 4);
        }
    }
}
