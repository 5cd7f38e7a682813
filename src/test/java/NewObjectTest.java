import java.util.NoSuchElementException;

/** Promise 1. */
public final class NewObjectTest {
    public static void main(String[] args) {
        nothingIsThere();
        theSeedIsTheStateForDrawing();
        objectsShareNothing();
        Check.end();
    }

    private static void nothingIsThere() {
        ChallengeAuthority x = new ChallengeAuthority(5);
        for (int kind = -1; kind <= 6; kind++) {
            int of = kind;
            Check.due("there(" + kind + ") at first", x.there(kind), 0);
            Check.refuses("state at first", NoSuchElementException.class, () -> x.state(of, 0));
            Check.refuses("detail at first", NoSuchElementException.class, () -> x.detail(of, 0, 0));
        }
        Check.due("csr() at first", x.csr(), 0);
        Check.due("clear() at first", x.clear(), 0);
        Check.due("publish() at first", x.publish(), 0);
        Check.due("the time at first", x.tick(0), 0);
    }

    private static void theSeedIsTheStateForDrawing() {
        Check.due("first nonce for 0", new ChallengeAuthority(0).nonce(), 48);
        Check.due("first nonce for 7", new ChallengeAuthority(7).nonce(), 13397077);
        Check.due("first nonce for -3", new ChallengeAuthority(-3).nonce(), 3845444);
    }

    private static void objectsShareNothing() {
        Client one = new Client(1);
        one.open(10807);
        one.order(0, 3, 9);
        one.feed(Sums.bytes(1, 2));
        one.x.tick(5);
        Client other = new Client(1);
        for (int kind = 0; kind <= 4; kind++) {
            Check.due("there(" + kind + ") of a second object", other.x.there(kind), 0);
        }
        Check.due("text of a second object", other.x.clear(), 0);
        Check.due("time of a second object", other.x.tick(0), 0);
    }
}
