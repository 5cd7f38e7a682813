/** Promise 6. */
public final class OrderTest {
    public static void main(String[] args) {
        anOrderHasAnAuthorizationForEachName();
        tokensAreDrawnInTurn();
        namesAndLifeHaveBounds();
        eachNameCanBeOrdered();
        oneToFourNamesCanBeOrdered();
        validAuthorizationsAreTakenAgain();
        theNewestValidOneIsTaken();
        otherAccountsAuthorizationsAreNotTaken();
        onesThatAreNotValidAreNotTaken();
        aThirteenthOrderIsRefused();
        aTwentyFifthAuthorizationIsRefused();
        thereIsRoomForTheLastOnes();
        whatIsLookedAtFirst();
        Check.end();
    }

    private static void anOrderHasAnAuthorizationForEachName() {
        Client c = new Client(41);
        c.open(10807);
        c.x.tick(3);
        Check.due("the first order", c.order(0, Sums.sum(0, 5, 9, 15), 20), 0);
        Check.due("the second order", c.order(0, Sums.sum(7), 1), 1);
        Check.due("authorizations", c.x.there(2), 5);
        Check.due("how many the first has", c.x.detail(1, 0, 4), 4);
        int[] names = {0, 5, 9, 15, 7};
        for (int a = 0; a < 5; a++) {
            Check.due("name of " + a, c.x.detail(2, a, 1), names[a]);
            Check.due("account of " + a, c.x.detail(2, a, 0), 0);
            Check.due("end of " + a, c.x.detail(2, a, 2), a < 4 ? 23 : 4);
            Check.due("state of " + a, c.x.state(2, a), 0);
            Check.due("state of its challenge 0", c.x.state(3, 2 * a), 0);
            Check.due("state of its challenge 1", c.x.state(3, 2 * a + 1), 0);
            Check.due("a of the orders", c.x.detail(1, a / 4, 5 + a % 4), a);
        }
        Check.due("state of the order", c.x.state(1, 0), 0);
        Check.due("end of the order", c.x.detail(1, 0, 2), 23);
        Check.due("names of the order", c.x.detail(1, 0, 1), 33313);
        Check.due("certificate of the order", c.x.detail(1, 0, 3), -1);
    }

    private static void tokensAreDrawnInTurn() {
        Client c = new Client(42);
        c.open(10807);
        int first = c.x.nonce();
        c.order(0, 9, 20);
        int after = c.x.nonce();
        ChallengeAuthority drawing = new ChallengeAuthority(42);
        drawing.nonce();
        Check.due("the nonce before", first, drawing.nonce());
        drawing.nonce();
        for (int i = 0; i < 4; i++) {
            Check.due("token " + i, c.x.detail(3, i, 0), drawing.nonce());
        }
        Check.due("the nonce behind", after, drawing.nonce());
    }

    /** "names is not the sum for 1 to 4 names, or life not 1 .. 100" */
    private static void namesAndLifeHaveBounds() {
        Client c = new Client(43);
        c.open(10807);
        int[] wrongNames = {
            0, 31, 65535, 65536, 65537, -1, 1 << 20, Integer.MIN_VALUE, Integer.MIN_VALUE + 1
        };
        for (int names : wrongNames) {
            Check.refuses("names " + names, IllegalArgumentException.class,
                    () -> c.order(0, names, 5));
        }
        for (int life : new int[] {0, -1, 101, Integer.MAX_VALUE, Integer.MIN_VALUE}) {
            Check.refuses("life " + life, IllegalArgumentException.class,
                    () -> c.order(0, 1, life));
        }
        Check.due("no order was made", c.x.there(1), 0);
        Check.due("no authorization was made", c.x.there(2), 0);
        Check.due("life 1", c.order(0, 1, 1), 0);
        Check.due("life 100", c.order(0, 32768, 100), 1);
        Check.due("four names", c.order(0, 61440, 100), 2);
    }

    /** "NAMES are 0 .. 15" */
    private static void eachNameCanBeOrdered() {
        for (int name = 0; name < 31; name++) {
            Client c = new Client(53);
            c.open(10807);
            int names = 1 << name;
            if (name < 16) {
                Check.answers("an order of name " + name, 0, () -> c.order(0, names, 5));
                Check.answers("the name it is for", name, () -> c.x.detail(2, 0, 1));
            } else {
                Check.refuses("an order of name " + name, IllegalArgumentException.class,
                        () -> c.order(0, names, 5));
            }
        }
    }

    /** "the sum for 1 to 4 names": from each name on, so many in a row or all over. */
    private static void oneToFourNamesCanBeOrdered() {
        for (int step : new int[] {1, 3, 5}) {
            for (int many = 0; many <= 8; many++) {
                for (int from = 0; from < 16; from++) {
                    int names = 0;
                    for (int i = 0; i < many; i++) {
                        names |= 1 << (from + i * step) % 16;
                    }
                    ordered(names, many);
                }
            }
        }
    }

    private static void ordered(int names, int many) {
        Client c = new Client(54);
        c.open(10807);
        if (many >= 1 && many <= 4) {
            Check.answers("an order of " + names, 0, () -> c.order(0, names, 5));
            Check.answers("its authorizations", many, () -> c.x.detail(1, 0, 4));
        } else {
            Check.refuses("an order of " + names, IllegalArgumentException.class,
                    () -> c.order(0, names, 5));
        }
    }

    private static void validAuthorizationsAreTakenAgain() {
        Client c = new Client(44);
        c.open(10807);
        c.ready(0, Sums.sum(3), 10);
        int mixed = c.order(0, Sums.sum(2, 3, 4), 90);
        Check.due("authorizations", c.x.there(2), 3);
        Check.due("for name 2 a new one", c.x.detail(1, mixed, 5), 1);
        Check.due("for name 3 the one there is", c.x.detail(1, mixed, 6), 0);
        Check.due("for name 4 a new one", c.x.detail(1, mixed, 7), 2);
        Check.due("the old one's end stays", c.x.detail(2, 0, 2), 40);
        Check.due("the order is PENDING", c.x.state(1, mixed), 0);
        int all = c.order(0, Sums.sum(3), 90);
        Check.due("an order with VALID ones alone is READY", c.x.state(1, all), 1);
        c.deactivate(0, 0);
        int anew = c.order(0, Sums.sum(3), 90);
        Check.due("one that is not VALID any more is not taken", c.x.detail(1, anew, 5), 3);
    }

    /** "the newest of this account for the name that is VALID" */
    private static void theNewestValidOneIsTaken() {
        Client c = new Client(45);
        c.open(10807);
        for (int i = 0; i < 3; i++) {
            c.order(0, 1, 90);
        }
        c.prove(0, 1);
        Check.due("the one that is VALID", c.x.detail(1, c.order(0, 1, 9), 5), 1);
        c.prove(0, 0);
        Check.due("the newer of two", c.x.detail(1, c.order(0, 1, 9), 5), 1);
        c.prove(0, 2);
        Check.due("the newest of three", c.x.detail(1, c.order(0, 1, 9), 5), 2);
        c.deactivate(0, 2);
        Check.due("the newest of those that are left", c.x.detail(1, c.order(0, 1, 9), 5), 1);
    }

    private static void otherAccountsAuthorizationsAreNotTaken() {
        Client c = new Client(46);
        c.open(10807);
        c.open(12317);
        c.ready(0, 1, 90);
        int o = c.order(1, 1, 90);
        Check.due("a new one", c.x.detail(1, o, 5), 1);
        Check.due("of the second account", c.x.detail(2, 1, 0), 1);
        Check.due("the order is the second account's", c.x.detail(1, o, 0), 1);
        Check.due("and PENDING", c.x.state(1, o), 0);
    }

    /** "or else a new one" */
    private static void onesThatAreNotValidAreNotTaken() {
        Client c = new Client(47);
        c.open(10807);
        c.order(0, 1, 90);
        Check.due("not a PENDING one", c.x.detail(1, c.order(0, 1, 9), 5), 1);
        c.x.tick(9);
        Check.due("not an INVALID one", c.x.detail(1, c.order(0, 1, 90), 5), 2);
        c.prove(0, 2);
        c.deactivate(0, 2);
        Check.due("not a DEACTIVATED one", c.x.detail(1, c.order(0, 1, 90), 5), 3);
        c.prove(0, 3);
        c.x.tick(39);
        Check.due("a VALID one until its time", c.x.detail(1, c.order(0, 1, 90), 5), 3);
        c.x.tick(1);
        Check.due("not an EXPIRED one", c.x.detail(1, c.order(0, 1, 90), 5), 4);
        Check.due("and one for another name", c.x.detail(1, c.order(0, 2, 90), 5), 5);
    }

    /** "there would be too many orders" */
    private static void aThirteenthOrderIsRefused() {
        Client c = new Client(48);
        c.open(10807);
        for (int o = 0; o < 12; o++) {
            Check.due("order " + o, c.order(0, 1, 90), o);
        }
        Check.refuses("a 13th order", IllegalStateException.class, () -> c.order(0, 1, 90));
        Check.due("orders", c.x.there(1), 12);
        Check.due("authorizations", c.x.there(2), 12);
    }

    /** "or authorizations"; only new ones count. */
    private static void aTwentyFifthAuthorizationIsRefused() {
        Client c = new Client(49);
        c.open(10807);
        for (int i = 0; i < 5; i++) {
            c.order(0, 15, 90);
        }
        c.order(0, 112, 90);
        Check.due("authorizations", c.x.there(2), 23);
        Check.refuses("two more", IllegalStateException.class, () -> c.order(0, 3, 90));
        Check.due("still", c.x.there(2), 23);
        c.prove(0, 0);
        Check.due("one that is there and one more", c.order(0, 3, 90), 6);
        Check.due("authorizations", c.x.there(2), 24);
        Check.refuses("one more", IllegalStateException.class, () -> c.order(0, 2, 90));
        Check.due("none more", c.order(0, 1, 90), 7);
        Check.due("the nonce is as if nothing was drawn", c.x.nonce(), drawnAfter(c, 49));
    }

    /** Whether 1 or 4 are new: up to 24 in all, and not up to 25. */
    private static void thereIsRoomForTheLastOnes() {
        for (int anew = 1; anew <= 4; anew++) {
            int names = (1 << anew) - 1;
            Client fits = withAuthorizations(24 - anew);
            int o = fits.x.there(1);
            Check.due(anew + " up to 24", fits.order(0, names, 50), o);
            Check.due("authorizations", fits.x.there(2), 24);
            Check.due("the last of them", fits.x.detail(1, o, 4 + anew), 23);
            Client full = withAuthorizations(25 - anew);
            Check.refuses(anew + " up to 25", IllegalStateException.class,
                    () -> full.order(0, names, 50));
            Check.due("authorizations", full.x.there(2), 25 - anew);
        }
    }

    private static Client withAuthorizations(int many) {
        Client c = new Client(52);
        c.open(10807);
        for (int left = many; left > 0; left -= 4) {
            c.order(0, (1 << Math.min(left, 4)) - 1, 50);
        }
        return c;
    }

    /** Each order, account or answer so far took a nonce, each authorization two tokens. */
    private static int drawnAfter(Client c, int seed) {
        ChallengeAuthority drawing = new ChallengeAuthority(seed);
        int noncesTaken = 1 + c.x.there(1) + 2 + 1;
        for (int i = 0; i < noncesTaken + 2 * c.x.there(2); i++) {
            drawing.nonce();
        }
        return drawing.nonce();
    }

    private static void whatIsLookedAtFirst() {
        Client c = new Client(50);
        c.open(10807);
        for (int o = 0; o < 12; o++) {
            c.order(0, 1, 90);
        }
        Check.refuses("wrong names of a 13th", IllegalArgumentException.class,
                () -> c.order(0, 0, 90));
        Check.refuses("wrong life of a 13th", IllegalArgumentException.class,
                () -> c.order(0, 1, 0));
    }
}
