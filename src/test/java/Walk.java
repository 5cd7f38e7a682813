import java.util.ArrayList;
import java.util.Collections;
import java.util.List;
import java.util.Random;
import java.util.Set;
import java.util.function.Predicate;
import java.util.stream.IntStream;

/**
 * One run of calls at random, made on the program and on Model alike. Most calls are right ones, so
 * that a run gets far; now and then something about them is odd.
 */
final class Walk {
    /** "An object is used for at most 512 calls after it has been made" */
    private static final int CALLS = 512;
    /** A step makes at most so many calls. */
    private static final int CALLS_OF_A_STEP = 12;
    /** One in so many choices is odd. */
    private static final int ODD = 16;
    private static final int[] ODD_NUMBERS = {
        -2, -1, 0, 1, 2, 4, 5, 6, 8, 9, 10, 11, 12, 16, 24, 100, 101, 999, 1000, 1001, 32767, 32768,
        65535, 65536, Integer.MAX_VALUE, Integer.MIN_VALUE
    };
    /** Few names, so that orders share authorizations. */
    private static final int[] NAMES = {0, 1, 7, 15};

    /** What a walk may do next, and how often. */
    private enum Step {
        ACCOUNT(2), ORDER(3), ANSWER(4), PROBE(4), FINISH(3), PUBLISH(1), REVOKE(1), DEACTIVATE(1),
        ROLLOVER(1), TEXT(1), TICK(2), SUMS(1), ASK(1);

        final int often;

        Step(int often) {
            this.often = often;
        }
    }

    private final int run;
    private final Random random;
    private final List<Step> steps = new ArrayList<>();
    private final ChallengeAuthority x;
    private final Model m;
    private final Set<String> seen;
    private int calls;

    /** What was called and what came of it is put into seen. */
    Walk(int run, Set<String> seen) {
        this.run = run;
        this.seen = seen;
        random = new Random(run);
        int seed = random.nextInt();
        x = new ChallengeAuthority(seed);
        m = new Model(seed);
    }

    void go() {
        chooseSteps();
        int end = 20 + random.nextInt(CALLS - CALLS_OF_A_STEP - 20);
        while (calls < end) {
            step();
        }
        lookAtAll();
    }

    private void same(String method, Check.Call program, Check.Call model, long... told) {
        calls++;
        StringBuilder call = new StringBuilder();
        for (long one : told) {
            call.append(call.length() == 0 ? "" : ", ").append(one);
        }
        String what = "run " + run + ", call " + calls + ": " + method + "(" + call + ")";
        String due = Check.same(what, program, model);
        seen.add(method + (due.startsWith("java") ? " " + due : ""));
    }

    private boolean odd() {
        return random.nextInt(ODD) == 0;
    }

    private int oddNumber() {
        return ODD_NUMBERS[random.nextInt(ODD_NUMBERS.length)];
    }

    /** One of so many, or now and then something else. */
    private int oneOf(int many) {
        return odd() || many == 0 ? oddNumber() : random.nextInt(many);
    }

    private <T> int oneOf(List<T> all, Predicate<T> such) {
        List<Integer> found = new ArrayList<>();
        for (int i = 0; i < all.size(); i++) {
            if (such.test(all.get(i))) {
                found.add(i);
            }
        }
        return odd() || found.isEmpty()
                ? oneOf(all.size())
                : found.get(random.nextInt(found.size()));
    }

    /** Each run leaves some steps out, so that the others get farther than they would with them. */
    private void chooseSteps() {
        for (Step step : Step.values()) {
            boolean wanted = step == Step.ACCOUNT || step == Step.ORDER || random.nextInt(3) > 0;
            steps.addAll(Collections.nCopies(wanted ? step.often : 0, step));
        }
    }

    private void step() {
        switch (steps.get(random.nextInt(steps.size()))) {
            case ACCOUNT -> account();
            case ORDER -> order();
            case ANSWER -> answer();
            case PROBE -> probe();
            case FINISH -> finish();
            case PUBLISH -> same("publish", x::publish, m::publish);
            case REVOKE -> revoke();
            case DEACTIVATE -> deactivate();
            case ROLLOVER -> rollover();
            case TEXT -> text();
            case TICK -> tick();
            case SUMS -> sums();
            case ASK -> ask();
        }
    }

    private int nonce() {
        if (odd()) {
            return m.noncesOut.isEmpty() || odd()
                    ? oddNumber()
                    : m.noncesOut.get(random.nextInt(m.noncesOut.size()));
        }
        same("nonce", x::nonce, m::nonce);
        return m.noncesOut.get(m.noncesOut.size() - 1);
    }

    private int key() {
        return odd() ? oddNumber() : Sums.KEYS[random.nextInt(Sums.KEYS.length)];
    }

    private int signUnder(int key, int... ints) {
        if (key < 1 || key > 32768 || odd()) {
            return odd() ? oddNumber() : random.nextInt(32768);
        }
        int right = Sums.sign(Sums.digest(ints), key);
        return odd() ? right + key : right;
    }

    private int sign(int k, int... ints) {
        boolean none = k < 0 || k >= m.accounts.size();
        return signUnder(none ? 1003 : m.accounts.get(k).key, ints);
    }

    private int openAccount() {
        return oneOf(m.accounts, one -> one.state == Model.AccountState.OPEN);
    }

    private void account() {
        int key = key();
        int nonce = nonce();
        int sig = signUnder(key, 1, key, nonce, 0, 0);
        same("account", () -> x.account(key, nonce, sig), () -> m.account(key, nonce, sig),
                key, nonce, sig);
    }

    private int names() {
        int names = 0;
        for (int name : NAMES) {
            names |= random.nextInt(3) == 0 ? 1 << name : 0;
        }
        return odd() ? random.nextInt() >> random.nextInt(32) : names;
    }

    private void order() {
        int k = openAccount();
        int nonce = nonce();
        int names = names();
        int life = odd() ? oddNumber() : 1 + random.nextInt(100);
        int sig = sign(k, 2, k, nonce, names, life);
        same("order", () -> x.order(k, nonce, names, life, sig),
                () -> m.order(k, nonce, names, life, sig), k, nonce, names, life, sig);
    }

    /** The account of an authorization, or now and then another one. */
    private int accountOf(int a) {
        return odd() || a < 0 || a >= m.authorizations.size()
                ? openAccount()
                : m.authorizations.get(a).account;
    }

    private void answer() {
        int a = oneOf(m.authorizations, one -> one.state == Model.AuthorizationState.PENDING);
        int which = oneOf(2);
        int k = accountOf(a);
        int nonce = nonce();
        int sig = sign(k, 3, k, nonce, a, which);
        same("answer", () -> x.answer(k, nonce, a, which, sig),
                () -> m.answer(k, nonce, a, which, sig), k, nonce, a, which, sig);
    }

    private void probe() {
        int c = oneOf(m.challenges, one -> one.state == Model.ChallengeState.PROCESSING);
        int a = odd() ? oddNumber() : Math.floorDiv(c, 2);
        int which = odd() ? oddNumber() : Math.floorMod(c, 2);
        int found = random.nextInt(3) == 0 || c < 0 || c >= m.challenges.size()
                ? random.nextInt()
                : due(c);
        same("probe", () -> x.probe(a, which, found), () -> m.probe(a, which, found),
                a, which, found);
    }

    private int due(int c) {
        int key = m.accounts.get(m.authorizations.get(c / 2).account).key;
        return Sums.digest(8, m.challenges.get(c).token, key, 0, 0);
    }

    private void finish() {
        int o = oneOf(m.orders, one -> one.state == Model.OrderState.READY);
        boolean none = o < 0 || o >= m.orders.size();
        int k = none || odd() ? openAccount() : m.orders.get(o).account;
        if (!odd()) {
            request(none || odd() ? names() & 0xFFFF : m.orders.get(o).names);
        }
        int nonce = nonce();
        int sig = sign(k, 4, k, nonce, o, m.csr());
        same("finish", () -> x.finish(k, nonce, o, sig), () -> m.finish(k, nonce, o, sig),
                k, nonce, o, sig);
    }

    /** Puts a request for the names into the text. */
    private void request(int names) {
        int[] each = IntStream.range(0, 16).filter(name -> (names >> name & 1) == 1).toArray();
        byte[] bytes = Sums.request(Sums.KEYS[random.nextInt(Sums.KEYS.length)], each);
        if (odd()) {
            bytes[random.nextInt(bytes.length)]++;
        }
        same("clear", x::clear, m::clear);
        for (int from = 0; from < bytes.length; from += 8) {
            int n = Math.min(8, bytes.length - from);
            long piece = random.nextLong();
            for (int i = 0; i < n; i++) {
                piece = piece << 8 | bytes[from + i] & 0xFF;
            }
            feed(piece, n);
        }
    }

    private void feed(long bytes, int n) {
        same("feed", () -> x.feed(bytes, n) ? 1 : 0, () -> m.feed(bytes, n) ? 1 : 0, bytes, n);
    }

    private void revoke() {
        int c = oneOf(m.certificates, one -> one.state == Model.CertificateState.GOOD);
        boolean none = c < 0 || c >= m.certificates.size() || random.nextInt(3) == 0;
        int k = none ? openAccount() : m.orders.get(m.certificates.get(c).order).account;
        int reason = oneOf(11);
        int nonce = nonce();
        int sig = sign(k, 5, k, nonce, c, reason);
        same("revoke", () -> x.revoke(k, nonce, c, reason, sig),
                () -> m.revoke(k, nonce, c, reason, sig), k, nonce, c, reason, sig);
    }

    private void deactivate() {
        int a = random.nextInt(8) == 0 ? -1 : oneOf(m.authorizations.size());
        int k = accountOf(a);
        int nonce = nonce();
        int sig = sign(k, 6, k, nonce, a, 0);
        same("deactivate", () -> x.deactivate(k, nonce, a, sig),
                () -> m.deactivate(k, nonce, a, sig), k, nonce, a, sig);
    }

    private void rollover() {
        int k = openAccount();
        int key = key();
        int nonce = nonce();
        int sig = sign(k, 7, k, nonce, key, 0);
        int sig2 = signUnder(key, 7, k, nonce, key, 0);
        same("rollover", () -> x.rollover(k, nonce, key, sig, sig2),
                () -> m.rollover(k, nonce, key, sig, sig2), k, nonce, key, sig, sig2);
    }

    private void text() {
        if (random.nextInt(4) == 0) {
            same("clear", x::clear, m::clear);
        }
        feed(random.nextLong(), 1 + oneOf(8));
        feed(random.nextLong(), 8);
        same("csr", x::csr, m::csr);
    }

    private void tick() {
        int n = odd() ? oddNumber() : random.nextInt(random.nextInt(9) == 0 ? 1001 : 12);
        same("tick", () -> x.tick(n), () -> m.tick(n), n);
    }

    private void sums() {
        int b = random.nextInt() >> random.nextInt(32);
        int e = random.nextInt() >> random.nextInt(32);
        int n = key();
        same("power", () -> x.power(b, e, n), () -> m.power(b, e, n), b, e, n);
        same("digest", () -> x.digest(b, e, n, run, calls), () -> m.digest(b, e, n, run, calls),
                b, e, n, run, calls);
    }

    private void ask() {
        int kind = oneOf(5);
        int k = oneOf(24);
        same("there", () -> x.there(kind), () -> m.there(kind), kind);
        askState(kind, k);
        askDetail(kind, k, oneOf(9));
    }

    private void askState(int kind, int k) {
        same("state", () -> x.state(kind, k), () -> m.state(kind, k), kind, k);
    }

    private void askDetail(int kind, int k, int what) {
        same("detail", () -> x.detail(kind, k, what), () -> m.detail(kind, k, what), kind, k, what);
    }

    /** As much of what there is as the calls that are left can ask for. */
    private void lookAtAll() {
        List<int[]> places = new ArrayList<>();
        int[] there = {
            m.accounts.size(), m.orders.size(), m.authorizations.size(), m.challenges.size(),
            m.certificates.size()
        };
        for (int kind = 0; kind < there.length; kind++) {
            for (int k = 0; k < there[kind]; k++) {
                for (int what = -1; what < 9; what++) {
                    places.add(new int[] {kind, k, what});
                }
            }
        }
        Collections.shuffle(places, random);
        for (int i = 0; i < places.size() && calls < CALLS; i++) {
            int[] place = places.get(i);
            if (place[2] < 0) {
                askState(place[0], place[1]);
            } else {
                askDetail(place[0], place[1], place[2]);
            }
        }
    }
}
