import java.util.ArrayList;
import java.util.List;
import java.util.NoSuchElementException;
import java.util.function.Function;

/**
 * The document written down a second time, sentence by sentence and without a thought for room or
 * speed: lists that grow, the rule for orders looked at after every call, digests and requests by
 * Sums and Reading. RandomRunsTest compares the program with it.
 */
final class Model {
    enum AccountState { OPEN, CLOSED }

    enum OrderState { PENDING, READY, PROCESSING, VALID, INVALID }

    enum AuthorizationState { PENDING, VALID, INVALID, DEACTIVATED, EXPIRED }

    enum ChallengeState { PENDING, PROCESSING, VALID, INVALID }

    enum CertificateState { GOOD, REVOKED }

    static final class Account {
        AccountState state = AccountState.OPEN;
        int key;
    }

    static final class Order {
        OrderState state = OrderState.PENDING;
        int account;
        int names;
        int expires;
        int certificate = -1;
        final List<Integer> authorizations = new ArrayList<>();
    }

    static final class Authorization {
        AuthorizationState state = AuthorizationState.PENDING;
        int account;
        int name;
        int expires;
    }

    static final class Challenge {
        ChallengeState state = ChallengeState.PENDING;
        int token;
        int wrong;
    }

    static final class Certificate {
        CertificateState state = CertificateState.GOOD;
        int order;
        int names;
        int key;
        int issued;
        int reason = -1;
    }

    final List<Account> accounts = new ArrayList<>();
    final List<Order> orders = new ArrayList<>();
    final List<Authorization> authorizations = new ArrayList<>();
    final List<Challenge> challenges = new ArrayList<>();
    final List<Certificate> certificates = new ArrayList<>();
    final List<Integer> noncesOut = new ArrayList<>();
    final List<Integer> text = new ArrayList<>();
    int drawing;
    int time;

    Model(int seed) {
        drawing = seed;
    }

    private int draw() {
        drawing = drawing * 1103515245 + 12345;
        return drawing >>> 8;
    }

    private static boolean isKey(int n) {
        return 1000 <= n && n <= 32767;
    }

    private static boolean isRight(int s, int d, int n) {
        return 0 <= s && s < n && Sums.raised(s, n) == d % n;
    }

    private static void refuse(boolean so, RuntimeException with) {
        if (so) {
            throw with;
        }
    }

    private static <T> T there(List<T> all, int k) {
        if (k < 0 || k >= all.size()) {
            throw new NoSuchElementException();
        }
        return all.get(k);
    }

    private static <T> int many(List<T> all, Function<T, Boolean> such) {
        int many = 0;
        for (T one : all) {
            many += such.apply(one) ? 1 : 0;
        }
        return many;
    }

    /** The rule of the Terms for PENDING and READY orders. */
    private void rule() {
        for (Order order : orders) {
            int pending = 0;
            int valid = 0;
            for (int a : order.authorizations) {
                pending += authorizations.get(a).state == AuthorizationState.PENDING ? 1 : 0;
                valid += authorizations.get(a).state == AuthorizationState.VALID ? 1 : 0;
            }
            int all = order.authorizations.size();
            boolean open = order.state == OrderState.PENDING || order.state == OrderState.READY;
            if (open && pending + valid < all) {
                order.state = OrderState.INVALID;
            } else if (order.state == OrderState.PENDING && valid == all) {
                order.state = OrderState.READY;
            }
        }
    }

    private void signed(int k, int nonce, int sig, int d) {
        Account account = there(accounts, k);
        refuse(account.state == AccountState.CLOSED, new UnsupportedOperationException());
        refuse(!isRight(sig, d, account.key), new UnsupportedOperationException());
        refuse(!noncesOut.remove((Integer) nonce), new IllegalArgumentException());
    }

    int nonce() {
        int drawn = draw();
        noncesOut.add(drawn);
        if (noncesOut.size() == 9) {
            noncesOut.remove(0);
        }
        return drawn;
    }

    int power(int b, int e, int n) {
        return b < 0 || e < 0 || !isKey(n) ? -1 : Sums.power(b, e, n);
    }

    int digest(int a, int b, int c, int d, int e) {
        return Sums.digest(a, b, c, d, e);
    }

    private int withKey(int key) {
        for (Account account : accounts) {
            if (account.key == key) {
                return accounts.indexOf(account);
            }
        }
        return -1;
    }

    int account(int key, int nonce, int sig) {
        int d = digest(1, key, nonce, 0, 0);
        refuse(!isKey(key), new IllegalArgumentException());
        refuse(!isRight(sig, d, key), new UnsupportedOperationException());
        refuse(!noncesOut.remove((Integer) nonce), new IllegalArgumentException());
        int k = withKey(key);
        if (k >= 0) {
            refuse(accounts.get(k).state == AccountState.CLOSED, new IllegalStateException());
            return k;
        }
        refuse(accounts.size() == 6, new IllegalStateException());
        Account made = new Account();
        made.key = key;
        accounts.add(made);
        return accounts.size() - 1;
    }

    /** The numbers of the account's VALID authorizations for a name, the newest last. */
    private List<Integer> valid(int k, int name) {
        List<Integer> found = new ArrayList<>();
        for (int a = 0; a < authorizations.size(); a++) {
            Authorization one = authorizations.get(a);
            if (one.account == k && one.name == name && one.state == AuthorizationState.VALID) {
                found.add(a);
            }
        }
        return found;
    }

    private static List<Integer> namesOf(int sum) {
        List<Integer> names = new ArrayList<>();
        for (int name = 0; name < 16; name++) {
            if ((sum & 1 << name) != 0) {
                names.add(name);
            }
        }
        return names;
    }

    int order(int k, int nonce, int names, int life, int sig) {
        signed(k, nonce, sig, digest(2, k, nonce, names, life));
        List<Integer> told = namesOf(names);
        refuse(names < 0 || names > 65535, new IllegalArgumentException());
        refuse(told.isEmpty() || told.size() > 4, new IllegalArgumentException());
        refuse(life < 1 || life > 100, new IllegalArgumentException());
        int anew = many(told, name -> valid(k, name).isEmpty());
        refuse(orders.size() == 12, new IllegalStateException());
        refuse(authorizations.size() + anew > 24, new IllegalStateException());
        Order made = new Order();
        made.account = k;
        made.names = names;
        made.expires = time + life;
        for (int name : told) {
            List<Integer> valid = valid(k, name);
            made.authorizations.add(
                    valid.isEmpty() ? authorize(k, name, life) : valid.get(valid.size() - 1));
        }
        orders.add(made);
        rule();
        return orders.size() - 1;
    }

    private int authorize(int k, int name, int life) {
        Authorization made = new Authorization();
        made.account = k;
        made.name = name;
        made.expires = time + life;
        authorizations.add(made);
        for (int which = 0; which < 2; which++) {
            Challenge challenge = new Challenge();
            challenge.token = draw();
            challenges.add(challenge);
        }
        return authorizations.size() - 1;
    }

    private Challenge challenge(int a, int which) {
        there(authorizations, a);
        refuse(which != 0 && which != 1, new NoSuchElementException());
        return challenges.get(2 * a + which);
    }

    int answer(int k, int nonce, int a, int which, int sig) {
        signed(k, nonce, sig, digest(3, k, nonce, a, which));
        Challenge challenge = challenge(a, which);
        Authorization of = authorizations.get(a);
        refuse(of.account != k, new UnsupportedOperationException());
        refuse(of.state != AuthorizationState.PENDING, new IllegalStateException());
        refuse(challenge.state != ChallengeState.PENDING, new IllegalStateException());
        challenge.state = ChallengeState.PROCESSING;
        return challenge.token;
    }

    int probe(int a, int which, int found) {
        Challenge challenge = challenge(a, which);
        Authorization of = authorizations.get(a);
        refuse(challenge.state != ChallengeState.PROCESSING, new IllegalStateException());
        refuse(of.state != AuthorizationState.PENDING, new IllegalStateException());
        if (found == digest(8, challenge.token, accounts.get(of.account).key, 0, 0)) {
            challenge.state = ChallengeState.VALID;
            of.state = AuthorizationState.VALID;
            of.expires = time + 40;
        } else {
            challenge.wrong++;
            if (challenge.wrong == 3) {
                challenge.state = ChallengeState.INVALID;
                of.state = AuthorizationState.INVALID;
            }
        }
        rule();
        return of.state.ordinal();
    }

    int finish(int k, int nonce, int o, int sig) {
        signed(k, nonce, sig, digest(4, k, nonce, o, csr()));
        Order order = there(orders, o);
        refuse(order.account != k, new UnsupportedOperationException());
        refuse(order.state != OrderState.READY, new IllegalStateException());
        refuse(certificates.size() == 12, new IllegalStateException());
        Reading request = Reading.of(bytes());
        refuse(request == null, new IllegalArgumentException());
        refuse(request.names != order.names, new IllegalArgumentException());
        refuse(request.key == accounts.get(k).key, new IllegalArgumentException());
        Certificate made = new Certificate();
        made.order = o;
        made.names = order.names;
        made.key = request.key;
        made.issued = time;
        certificates.add(made);
        order.certificate = certificates.size() - 1;
        order.state = OrderState.PROCESSING;
        return order.certificate;
    }

    private byte[] bytes() {
        return Sums.bytes(text.stream().mapToInt(Integer::intValue).toArray());
    }

    int publish() {
        int published = many(orders, order -> order.state == OrderState.PROCESSING);
        for (Order order : orders) {
            order.state = order.state == OrderState.PROCESSING ? OrderState.VALID : order.state;
        }
        return published;
    }

    int revoke(int k, int nonce, int c, int reason, int sig) {
        signed(k, nonce, sig, digest(5, k, nonce, c, reason));
        Certificate certificate = there(certificates, c);
        Order order = orders.get(certificate.order);
        int without = many(namesOf(certificate.names), name -> valid(k, name).isEmpty());
        refuse(order.account != k && without > 0, new UnsupportedOperationException());
        refuse(reason < 0 || reason > 10, new IllegalArgumentException());
        refuse(certificate.state == CertificateState.REVOKED, new IllegalStateException());
        refuse(order.state != OrderState.VALID, new IllegalStateException());
        certificate.state = CertificateState.REVOKED;
        certificate.reason = reason;
        return many(certificates, one -> one.state == CertificateState.GOOD);
    }

    private static boolean canBeDeactivated(Authorization one) {
        return one.state == AuthorizationState.PENDING || one.state == AuthorizationState.VALID;
    }

    int deactivate(int k, int nonce, int a, int sig) {
        signed(k, nonce, sig, digest(6, k, nonce, a, 0));
        List<Authorization> chosen = new ArrayList<>();
        if (a == -1) {
            accounts.get(k).state = AccountState.CLOSED;
            chosen.addAll(authorizations);
            chosen.removeIf(one -> one.account != k || !canBeDeactivated(one));
        } else {
            Authorization one = there(authorizations, a);
            refuse(one.account != k, new UnsupportedOperationException());
            refuse(!canBeDeactivated(one), new IllegalStateException());
            chosen.add(one);
        }
        for (Authorization one : chosen) {
            one.state = AuthorizationState.DEACTIVATED;
        }
        rule();
        return chosen.size();
    }

    int rollover(int k, int nonce, int key, int sig, int sig2) {
        int d = digest(7, k, nonce, key, 0);
        signed(k, nonce, sig, d);
        refuse(!isKey(key), new IllegalArgumentException());
        refuse(!isRight(sig2, d, key), new UnsupportedOperationException());
        refuse(withKey(key) >= 0, new IllegalStateException());
        int had = accounts.get(k).key;
        accounts.get(k).key = key;
        return had;
    }

    boolean feed(long bytes, int n) {
        if (n < 1 || n > 8 || text.size() + n > 96) {
            return false;
        }
        for (int i = 1; i <= n; i++) {
            text.add((int) (bytes >> 8 * (n - i) & 255));
        }
        return true;
    }

    int clear() {
        int had = text.size();
        text.clear();
        return had;
    }

    int csr() {
        return Sums.digest(text.stream().mapToInt(Integer::intValue).toArray());
    }

    int tick(int n) {
        refuse(n < 0 || n > 1000, new IllegalArgumentException());
        time += n;
        for (Authorization one : authorizations) {
            if (one.expires <= time && one.state == AuthorizationState.PENDING) {
                one.state = AuthorizationState.INVALID;
            } else if (one.expires <= time && one.state == AuthorizationState.VALID) {
                one.state = AuthorizationState.EXPIRED;
            }
        }
        for (Order order : orders) {
            boolean open = order.state == OrderState.PENDING || order.state == OrderState.READY;
            order.state = open && order.expires <= time ? OrderState.INVALID : order.state;
        }
        rule();
        return time;
    }

    int there(int kind) {
        int[] counts = {
            accounts.size(), orders.size(), authorizations.size(), noncesOut.size(),
            certificates.size()
        };
        return kind < 0 || kind > 4 ? 0 : counts[kind];
    }

    int state(int kind, int k) {
        return switch (kind) {
            case 0 -> there(accounts, k).state.ordinal();
            case 1 -> there(orders, k).state.ordinal();
            case 2 -> there(authorizations, k).state.ordinal();
            case 3 -> there(challenges, k).state.ordinal();
            case 4 -> there(certificates, k).state.ordinal();
            default -> throw new NoSuchElementException();
        };
    }

    int detail(int kind, int k, int what) {
        List<Integer> all = switch (kind) {
            case 0 -> details(there(accounts, k), k);
            case 1 -> details(there(orders, k));
            case 2 -> details(there(authorizations, k));
            case 3 -> details(there(challenges, k));
            case 4 -> details(there(certificates, k));
            default -> throw new NoSuchElementException();
        };
        return what < 0 || what >= all.size() ? -1 : all.get(what);
    }

    private List<Integer> details(Account one, int k) {
        return List.of(one.key, many(orders, order -> order.account == k));
    }

    private static List<Integer> details(Order one) {
        List<Integer> all = new ArrayList<>(List.of(
                one.account, one.names, one.expires, one.certificate, one.authorizations.size()));
        all.addAll(one.authorizations);
        return all;
    }

    private static List<Integer> details(Authorization one) {
        return List.of(one.account, one.name, one.expires);
    }

    private static List<Integer> details(Challenge one) {
        return List.of(one.token, one.wrong);
    }

    private static List<Integer> details(Certificate one) {
        return List.of(one.order, one.names, one.key, one.issued, one.reason);
    }
}
