import java.util.Arrays;

/** Promises 14, 15 and 16. */
public final class TextTest {
    public static void main(String[] args) {
        theLowestBytesAreAppended();
        theNumberOfBytesHasBounds();
        thereIsRoomFor96();
        eachNumberOfBytesFillsTheText();
        clearEmptiesTheText();
        csrIsTheDigestOfAllBytes();
        Check.end();
    }

    private static void due(ChallengeAuthority x, String what, int... bytes) {
        Check.due(what, x.csr(), Sums.digest(bytes));
    }

    /** "the n lowest bytes of a long ..., the highest first" */
    private static void theLowestBytesAreAppended() {
        ChallengeAuthority x = new ChallengeAuthority(1);
        Check.holds("one byte", x.feed(0x0102030405060708L, 1));
        due(x, "the lowest", 8);
        Check.holds("three bytes", x.feed(0x0102030405060708L, 3));
        due(x, "the highest of them first", 8, 6, 7, 8);
        Check.holds("eight bytes", x.feed(0xFF80030405060708L, 8));
        due(x, "all of them", 8, 6, 7, 8, 255, 128, 3, 4, 5, 6, 7, 8);
        Check.holds("five bytes", x.feed(-2, 5));
        due(x, "of -2", 8, 6, 7, 8, 255, 128, 3, 4, 5, 6, 7, 8, 255, 255, 255, 255, 254);
        Check.due("in all", x.clear(), 17);
    }

    /** "when n is not 1 .. 8" */
    private static void theNumberOfBytesHasBounds() {
        ChallengeAuthority x = new ChallengeAuthority(1);
        for (int n = 1; n <= 8; n++) {
            Check.holds(n + " bytes", x.feed(0x0102030405060708L, n));
            due(x, n + " bytes", Arrays.copyOfRange(new int[] {1, 2, 3, 4, 5, 6, 7, 8}, 8 - n, 8));
            Check.due("so many", x.clear(), n);
        }
        for (int n : new int[] {0, 9, -1, Integer.MAX_VALUE, Integer.MIN_VALUE}) {
            Check.holds("not " + n + " bytes", !x.feed(1, n));
        }
        Check.due("nothing was appended", x.clear(), 0);
    }

    /** "or there would be more than 96" */
    private static void thereIsRoomFor96() {
        ChallengeAuthority x = new ChallengeAuthority(1);
        int[] all = new int[96];
        for (int i = 0; i < 11; i++) {
            Check.holds("eight more", x.feed(0x0101010101010101L * i, 8));
            Arrays.fill(all, 8 * i, 8 * i + 8, i);
        }
        Check.holds("seven more", x.feed(0, 7));
        Check.holds("not two more", !x.feed(3, 2));
        Check.holds("not eight more", !x.feed(3, 8));
        due(x, "nothing of them was appended", Arrays.copyOf(all, 95));
        Check.holds("one more", x.feed(200, 1));
        Check.holds("not one more", !x.feed(3, 1));
        all[95] = 200;
        due(x, "96 bytes", all);
        Check.due("how many", x.clear(), 96);
        Check.holds("then there is room", x.feed(5, 8));
        due(x, "and nothing of before", 0, 0, 0, 0, 0, 0, 0, 5);
    }

    /** "or there would be more than 96": for each n, with room for n and for one less. */
    private static void eachNumberOfBytesFillsTheText() {
        for (int n = 1; n <= 8; n++) {
            Client c = new Client(1);
            c.feed(new byte[97 - n]);
            Check.holds(n + " where there is room for one less", !c.x.feed(-1, n));
            Check.due("the text stays", c.x.clear(), 97 - n);
            c.feed(new byte[96 - n]);
            Check.holds(n + " where there is room for it", c.x.feed(-1, n));
            int[] bytes = new int[96];
            Arrays.fill(bytes, 96 - n, 96, 255);
            due(c.x, "the text with " + n, bytes);
            Check.due("the text is full", c.x.clear(), 96);
        }
    }

    private static void clearEmptiesTheText() {
        ChallengeAuthority x = new ChallengeAuthority(1);
        Check.due("at first", x.clear(), 0);
        x.feed(48, 1);
        x.feed(48, 2);
        Check.due("three bytes", x.clear(), 3);
        Check.due("then none", x.clear(), 0);
        Check.due("and no digest", x.csr(), 0);
    }

    /** "(0 .. 255 each)" */
    private static void csrIsTheDigestOfAllBytes() {
        ChallengeAuthority x = new ChallengeAuthority(1);
        Check.due("of nothing", x.csr(), 0);
        x.feed(48, 1);
        Check.due("of 48", x.csr(), 1429432673);
        Check.due("it changes nothing", x.csr(), 1429432673);
        x.clear();
        x.feed(255, 1);
        due(x, "of 255, which is no -1", 255);
        x.clear();
        x.feed(0, 1);
        x.feed(7, 1);
        due(x, "of 0 and 7", 0, 7);
    }
}
