/** Promise 2, and which nonces are out. */
public final class NonceTest {
    /** With this seed the first and the third nonce are the same, and the second is not. */
    private static final int SEED_OF_TWINS = 17837675;

    public static void main(String[] args) {
        noncesAreDrawn();
        nothingElseIsDrawnButTokens();
        theNinthPutsTheOldestAside();
        oneNonceGoesAtATime();
        ofTwinsTheOlderGoes();
        Check.end();
    }

    /** "TO DRAW a number", wrapping, from the lowest to the highest seed; at most 8 are out. */
    private static void noncesAreDrawn() {
        for (int seed : new int[] {0, 1, -1, 77, Integer.MAX_VALUE, Integer.MIN_VALUE}) {
            ChallengeAuthority x = new ChallengeAuthority(seed);
            int state = seed;
            for (int i = 0; i < 40; i++) {
                state = state * 1103515245 + 12345;
                Check.due("nonce " + i + " for " + seed, x.nonce(), state >>> 8);
                Check.due("nonces out", x.there(3), Math.min(i + 1, 8));
            }
        }
    }

    /** Whatever else was called in the world of World, and then more. */
    private static void nothingElseIsDrawnButTokens() {
        Client c = World.make();
        c.x.tick(1000);
        c.x.publish();
        c.x.clear();
        c.x.feed(1, 8);
        c.rollover(0, World.FREE_KEY);
        int state = World.SEED;
        for (int i = 0; i < c.drawn.size() + 2 * c.x.there(2) + 1; i++) {
            state = state * 1103515245 + 12345;
        }
        Check.due("the next nonce", c.nonce(), state >>> 8);
    }

    /** "when a ninth comes, the oldest is no longer out" */
    private static void theNinthPutsTheOldestAside() {
        Client c = new Client(21);
        int[] drawn = new int[10];
        for (int i = 0; i < 8; i++) {
            drawn[i] = c.x.nonce();
        }
        Check.holds("with eight the oldest is out", c.takes(drawn[0]));
        drawn[8] = c.x.nonce();
        drawn[9] = c.x.nonce();
        Check.holds("the oldest of nine is not out", !c.takes(drawn[1]));
        for (int i = 9; i > 1; i--) {
            Check.holds("nonce " + i + " is out", c.takes(drawn[i]));
            Check.due("nonces out", c.x.there(3), i - 2);
        }
    }

    private static void oneNonceGoesAtATime() {
        Client c = new Client(22);
        int first = c.x.nonce();
        int middle = c.x.nonce();
        int last = c.x.nonce();
        Check.holds("the middle one is out", c.takes(middle));
        Check.holds("the middle one is used up", !c.takes(middle));
        Check.due("nonces out", c.x.there(3), 2);
        Check.holds("0 is not out", !c.takes(0));
        Check.holds("-1 is not out", !c.takes(-1));
        Check.holds("the last one is out", c.takes(last));
        Check.holds("the first one is out", c.takes(first));
        Check.holds("a used one is not out when none is", !c.takes(first));
    }

    /** "one, the oldest, if it is out several times" */
    private static void ofTwinsTheOlderGoes() {
        Client c = new Client(SEED_OF_TWINS);
        int twin = c.x.nonce();
        c.x.nonce();
        Check.due("the third nonce", c.x.nonce(), twin);
        Check.holds("the twin is out", c.takes(twin));
        Check.due("one went", c.x.there(3), 2);
        for (int i = 0; i < 7; i++) {
            c.x.nonce();
        }
        Check.holds("the younger twin is still out", c.takes(twin));
        Check.holds("no third twin", !c.takes(twin));
    }
}
