import java.util.NoSuchElementException;

/**
 * An authority that gives certificates for names to whoever shows that the names are theirs.
 *
 * <p>Every row that a call can need is made in the constructor, so that calls make nothing but the
 * exceptions they throw; a row counts as there once the count of its kind has passed it.
 */
public final class ChallengeAuthority {

    private static final int MAX_ACCOUNTS = 6;
    private static final int MAX_ORDERS = 12;
    private static final int MAX_AUTHORIZATIONS = 24;
    private static final int MAX_CERTIFICATES = 12;
    private static final int MAX_NONCES = 8;
    private static final int MAX_TEXT = 96;
    private static final int MAX_FEED = 8;
    private static final int BITS_IN_BYTE = 8;

    private static final int CHALLENGES_EACH = 2;
    private static final int NAMES = 16;
    private static final int MAX_NAMES_IN_ORDER = 4;
    private static final int MAX_LIFE = 100;
    private static final int LIFE_ONCE_VALID = 40;
    private static final int MAX_WRONG = 3;
    private static final int MAX_REASON = 10;
    private static final int MAX_TICK = 1000;

    private static final int LOWEST_KEY = 1000;
    private static final int HIGHEST_KEY = 32767;
    private static final int SIGNATURE_EXPONENT = 17;
    private static final int DRAW_FACTOR = 1103515245;
    private static final int DRAW_STEP = 12345;
    private static final long DIGEST_FACTOR = 0x9E3779B97F4A7C15L;

    /** What a digest is for: the first of its ints. */
    private static final int FOR_ACCOUNT = 1;
    private static final int FOR_ORDER = 2;
    private static final int FOR_ANSWER = 3;
    private static final int FOR_FINISH = 4;
    private static final int FOR_REVOKE = 5;
    private static final int FOR_DEACTIVATE = 6;
    private static final int FOR_ROLLOVER = 7;
    private static final int FOR_PROBE = 8;
    private static final int FOR_REQUEST = 9;

    private static final int KIND_ACCOUNT = 0;
    private static final int KIND_ORDER = 1;
    private static final int KIND_AUTHORIZATION = 2;
    /** there() counts nonces under the number that state() and detail() give to challenges. */
    private static final int KIND_NONCE = 3;
    private static final int KIND_CHALLENGE = 3;
    private static final int KIND_CERTIFICATE = 4;

    private static final int WHOLE_ACCOUNT = -1;
    private static final int NONE = -1;

    private int drawState;
    private int time;
    private int accountCount;
    private int orderCount;
    private int authorizationCount;
    private int certificateCount;
    private final Account[] accounts = new Account[MAX_ACCOUNTS];
    private final Order[] orders = new Order[MAX_ORDERS];
    private final Authorization[] authorizations = new Authorization[MAX_AUTHORIZATIONS];
    /** Challenge c of authorization a stands at 2 * a + c, as state() and detail() number it. */
    private final Challenge[] challenges = new Challenge[CHALLENGES_EACH * MAX_AUTHORIZATIONS];
    private final Certificate[] certificates = new Certificate[MAX_CERTIFICATES];
    private final Nonces nonces = new Nonces();
    private final Text text = new Text();
    private final Request request = new Request();

    public ChallengeAuthority(int seed) {
        drawState = seed;
        for (int i = 0; i < MAX_ACCOUNTS; i++) {
            accounts[i] = new Account();
        }
        for (int i = 0; i < MAX_ORDERS; i++) {
            orders[i] = new Order();
        }
        for (int i = 0; i < MAX_AUTHORIZATIONS; i++) {
            authorizations[i] = new Authorization();
        }
        for (int i = 0; i < CHALLENGES_EACH * MAX_AUTHORIZATIONS; i++) {
            challenges[i] = new Challenge();
        }
        for (int i = 0; i < MAX_CERTIFICATES; i++) {
            certificates[i] = new Certificate();
        }
    }

    public int nonce() {
        int drawn = draw();
        nonces.putOut(drawn);
        return drawn;
    }

    public int power(int b, int e, int n) {
        return b < 0 || e < 0 || !isKey(n) ? -1 : powerModulo(b, e, n);
    }

    public int digest(int a, int b, int c, int d, int e) {
        return digestEnd(mix(mix(mix(mix(mix(0, a), b), c), d), e));
    }

    public int account(int key, int nonce, int sig)
            throws UnsupportedOperationException, IllegalArgumentException, IllegalStateException {
        if (!isKey(key)) {
            throw new IllegalArgumentException();
        }
        if (!isRight(sig, digest(FOR_ACCOUNT, key, nonce, 0, 0), key)) {
            throw new UnsupportedOperationException();
        }
        if (!nonces.takeBack(nonce)) {
            throw new IllegalArgumentException();
        }
        int k = accountWithKey(key);
        if (k == NONE ? accountCount >= MAX_ACCOUNTS : accounts[k].state == Account.CLOSED) {
            throw new IllegalStateException();
        }
        return k == NONE ? makeAccount(key) : k;
    }

    public int order(int k, int nonce, int names, int life, int sig)
            throws NoSuchElementException, UnsupportedOperationException, IllegalArgumentException,
                    IllegalStateException {
        acceptSigned(k, nonce, digest(FOR_ORDER, k, nonce, names, life), sig);
        if (!canBeOrdered(names) || life < 1 || life > MAX_LIFE) {
            throw new IllegalArgumentException();
        }
        if (orderCount >= MAX_ORDERS
                || authorizationCount + missingAuthorizations(k, names) > MAX_AUTHORIZATIONS) {
            throw new IllegalStateException();
        }
        int made = makeOrder(k, names, time + life);
        settleOrders();
        return made;
    }

    public int answer(int k, int nonce, int a, int which, int sig)
            throws NoSuchElementException, UnsupportedOperationException, IllegalArgumentException,
                    IllegalStateException {
        acceptSigned(k, nonce, digest(FOR_ANSWER, k, nonce, a, which), sig);
        Challenge challenge = challengeOf(a, which);
        Authorization authorization = authorizations[a];
        if (authorization.owner != k) {
            throw new UnsupportedOperationException();
        }
        if (authorization.state != Authorization.PENDING || challenge.state != Challenge.PENDING) {
            throw new IllegalStateException();
        }
        challenge.state = Challenge.PROCESSING;
        return challenge.token;
    }

    public int probe(int a, int which, int found)
            throws NoSuchElementException, IllegalStateException {
        Challenge challenge = challengeOf(a, which);
        Authorization authorization = authorizations[a];
        if (challenge.state != Challenge.PROCESSING
                || authorization.state != Authorization.PENDING) {
            throw new IllegalStateException();
        }
        int key = accounts[authorization.owner].key;
        if (found == digest(FOR_PROBE, challenge.token, key, 0, 0)) {
            challenge.state = Challenge.VALID;
            authorization.state = Authorization.VALID;
            authorization.expires = time + LIFE_ONCE_VALID;
        } else {
            countWrong(challenge, authorization);
        }
        settleOrders();
        return authorization.state;
    }

    public int finish(int k, int nonce, int o, int sig)
            throws NoSuchElementException, UnsupportedOperationException, IllegalArgumentException,
                    IllegalStateException {
        acceptSigned(k, nonce, digest(FOR_FINISH, k, nonce, o, csr()), sig);
        if (o < 0 || o >= orderCount) {
            throw new NoSuchElementException();
        }
        Order order = orders[o];
        if (order.owner != k) {
            throw new UnsupportedOperationException();
        }
        if (order.state != Order.READY || certificateCount >= MAX_CERTIFICATES) {
            throw new IllegalStateException();
        }
        if (!request.readFrom(text)
                || request.names != order.names
                || request.key == accounts[k].key) {
            throw new IllegalArgumentException();
        }
        order.state = Order.PROCESSING;
        order.certificate = makeCertificate(o, order.names, request.key);
        return order.certificate;
    }

    public int publish() {
        int published = 0;
        for (int o = 0; o < orderCount; o++) {
            if (orders[o].state == Order.PROCESSING) {
                orders[o].state = Order.VALID;
                published++;
            }
        }
        return published;
    }

    public int revoke(int k, int nonce, int c, int reason, int sig)
            throws NoSuchElementException, UnsupportedOperationException, IllegalArgumentException,
                    IllegalStateException {
        acceptSigned(k, nonce, digest(FOR_REVOKE, k, nonce, c, reason), sig);
        if (c < 0 || c >= certificateCount) {
            throw new NoSuchElementException();
        }
        Certificate certificate = certificates[c];
        Order order = orders[certificate.order];
        if (order.owner != k && missingAuthorizations(k, certificate.names) > 0) {
            throw new UnsupportedOperationException();
        }
        if (reason < 0 || reason > MAX_REASON) {
            throw new IllegalArgumentException();
        }
        if (certificate.state == Certificate.REVOKED || order.state != Order.VALID) {
            throw new IllegalStateException();
        }
        certificate.state = Certificate.REVOKED;
        certificate.reason = reason;
        return goodCertificates();
    }

    public int deactivate(int k, int nonce, int a, int sig)
            throws NoSuchElementException, UnsupportedOperationException, IllegalArgumentException,
                    IllegalStateException {
        acceptSigned(k, nonce, digest(FOR_DEACTIVATE, k, nonce, a, 0), sig);
        int deactivated = a == WHOLE_ACCOUNT ? closeAccount(k) : deactivateOne(k, a);
        settleOrders();
        return deactivated;
    }

    public int rollover(int k, int nonce, int key, int sig, int sig2)
            throws NoSuchElementException, UnsupportedOperationException, IllegalArgumentException,
                    IllegalStateException {
        int signed = digest(FOR_ROLLOVER, k, nonce, key, 0);
        acceptSigned(k, nonce, signed, sig);
        if (!isKey(key)) {
            throw new IllegalArgumentException();
        }
        if (!isRight(sig2, signed, key)) {
            throw new UnsupportedOperationException();
        }
        if (accountWithKey(key) != NONE) {
            throw new IllegalStateException();
        }
        int before = accounts[k].key;
        accounts[k].key = key;
        return before;
    }

    public boolean feed(long bytes, int n) {
        return n >= 1 && n <= MAX_FEED && text.append(bytes, n);
    }

    public int clear() {
        int had = text.size;
        text.size = 0;
        return had;
    }

    public int csr() {
        long h = 0;
        for (int i = 0; i < text.size; i++) {
            h = mix(h, text.bytes[i]);
        }
        return digestEnd(h);
    }

    public int tick(int n) throws IllegalArgumentException {
        if (n < 0 || n > MAX_TICK) {
            throw new IllegalArgumentException();
        }
        time += n;
        for (int a = 0; a < authorizationCount; a++) {
            authorizations[a].expireAt(time);
        }
        for (int o = 0; o < orderCount; o++) {
            orders[o].expireAt(time);
        }
        settleOrders();
        return time;
    }

    public int there(int kind) {
        switch (kind) {
            case KIND_ACCOUNT:
                return accountCount;
            case KIND_ORDER:
                return orderCount;
            case KIND_AUTHORIZATION:
                return authorizationCount;
            case KIND_NONCE:
                return nonces.count;
            case KIND_CERTIFICATE:
                return certificateCount;
            default:
                return 0;
        }
    }

    public int state(int kind, int k) throws NoSuchElementException {
        requireThere(kind, k);
        switch (kind) {
            case KIND_ACCOUNT:
                return accounts[k].state;
            case KIND_ORDER:
                return orders[k].state;
            case KIND_AUTHORIZATION:
                return authorizations[k].state;
            case KIND_CHALLENGE:
                return challenges[k].state;
            default:
                return certificates[k].state;
        }
    }

    public int detail(int kind, int k, int what) throws NoSuchElementException {
        requireThere(kind, k);
        switch (kind) {
            case KIND_ACCOUNT:
                return accountDetail(k, what);
            case KIND_ORDER:
                return orders[k].told(what);
            case KIND_AUTHORIZATION:
                return authorizations[k].told(what);
            case KIND_CHALLENGE:
                return challenges[k].told(what);
            default:
                return certificates[k].told(what);
        }
    }

    private static boolean isKey(int n) {
        return n >= LOWEST_KEY && n <= HIGHEST_KEY;
    }

    private static int powerModulo(int b, int e, int n) {
        int result = 1;
        int square = b % n;
        for (int left = e; left > 0; left >>= 1) {
            if ((left & 1) == 1) {
                result = result * square % n;
            }
            square = square * square % n;
        }
        return result;
    }

    private static boolean isRight(int sig, int signed, int key) {
        return sig >= 0
                && sig < key
                && powerModulo(sig, SIGNATURE_EXPONENT, key) == signed % key;
    }

    private static long mix(long h, int x) {
        long mixed = (h ^ x) * DIGEST_FACTOR;
        return mixed ^ (mixed >>> 29);
    }

    private static int digestEnd(long h) {
        return (int) (h >>> 33);
    }

    private static boolean hasName(int names, int name) {
        return (names >> name & 1) == 1;
    }

    private static boolean canBeOrdered(int names) {
        return names > 0 && names < 1 << NAMES && Integer.bitCount(names) <= MAX_NAMES_IN_ORDER;
    }

    private int draw() {
        drawState = drawState * DRAW_FACTOR + DRAW_STEP;
        return drawState >>> 8;
    }

    /** What a signed call looks at first; the nonce is used up even if the call throws later. */
    private void acceptSigned(int k, int nonce, int signed, int sig) {
        if (k < 0 || k >= accountCount) {
            throw new NoSuchElementException();
        }
        if (accounts[k].state == Account.CLOSED || !isRight(sig, signed, accounts[k].key)) {
            throw new UnsupportedOperationException();
        }
        if (!nonces.takeBack(nonce)) {
            throw new IllegalArgumentException();
        }
    }

    private int accountWithKey(int key) {
        for (int k = 0; k < accountCount; k++) {
            if (accounts[k].key == key) {
                return k;
            }
        }
        return NONE;
    }

    private int makeAccount(int key) {
        accounts[accountCount].key = key;
        return accountCount++;
    }

    private int newestValid(int k, int name) {
        for (int a = authorizationCount - 1; a >= 0; a--) {
            Authorization one = authorizations[a];
            if (one.owner == k && one.name == name && one.state == Authorization.VALID) {
                return a;
            }
        }
        return NONE;
    }

    /** For how many of the names the account has no authorization that is VALID. */
    private int missingAuthorizations(int k, int names) {
        int missing = 0;
        for (int name = 0; name < NAMES; name++) {
            if (hasName(names, name) && newestValid(k, name) == NONE) {
                missing++;
            }
        }
        return missing;
    }

    private int makeOrder(int k, int names, int expires) {
        Order made = orders[orderCount];
        made.owner = k;
        made.names = names;
        made.expires = expires;
        for (int name = 0; name < NAMES; name++) {
            if (hasName(names, name)) {
                int valid = newestValid(k, name);
                made.attach(valid == NONE ? makeAuthorization(k, name, expires) : valid);
            }
        }
        return orderCount++;
    }

    private int makeAuthorization(int k, int name, int expires) {
        Authorization made = authorizations[authorizationCount];
        made.owner = k;
        made.name = name;
        made.expires = expires;
        for (int which = 0; which < CHALLENGES_EACH; which++) {
            challenges[CHALLENGES_EACH * authorizationCount + which].token = draw();
        }
        return authorizationCount++;
    }

    private Challenge challengeOf(int a, int which) {
        if (a < 0 || a >= authorizationCount || which < 0 || which >= CHALLENGES_EACH) {
            throw new NoSuchElementException();
        }
        return challenges[CHALLENGES_EACH * a + which];
    }

    private static void countWrong(Challenge challenge, Authorization authorization) {
        challenge.wrong++;
        if (challenge.wrong >= MAX_WRONG) {
            challenge.state = Challenge.INVALID;
            authorization.state = Authorization.INVALID;
        }
    }

    private int makeCertificate(int o, int names, int key) {
        Certificate made = certificates[certificateCount];
        made.order = o;
        made.names = names;
        made.key = key;
        made.issued = time;
        return certificateCount++;
    }

    private int goodCertificates() {
        int good = 0;
        for (int c = 0; c < certificateCount; c++) {
            if (certificates[c].state == Certificate.GOOD) {
                good++;
            }
        }
        return good;
    }

    private int closeAccount(int k) {
        accounts[k].state = Account.CLOSED;
        int deactivated = 0;
        for (int a = 0; a < authorizationCount; a++) {
            if (authorizations[a].owner == k && authorizations[a].isLive()) {
                authorizations[a].state = Authorization.DEACTIVATED;
                deactivated++;
            }
        }
        return deactivated;
    }

    private int deactivateOne(int k, int a) {
        if (a < 0 || a >= authorizationCount) {
            throw new NoSuchElementException();
        }
        if (authorizations[a].owner != k) {
            throw new UnsupportedOperationException();
        }
        if (!authorizations[a].isLive()) {
            throw new IllegalStateException();
        }
        authorizations[a].state = Authorization.DEACTIVATED;
        return 1;
    }

    /** The rule by which orders become READY or INVALID, after a change of authorizations. */
    private void settleOrders() {
        for (int o = 0; o < orderCount; o++) {
            if (orders[o].isOpen()) {
                settle(orders[o]);
            }
        }
    }

    private void settle(Order order) {
        boolean allValid = true;
        for (int i = 0; i < order.attached; i++) {
            Authorization one = authorizations[order.authorizations[i]];
            if (!one.isLive()) {
                order.state = Order.INVALID;
                return;
            }
            allValid = allValid && one.state == Authorization.VALID;
        }
        if (allValid) {
            order.state = Order.READY;
        }
    }

    private void requireThere(int kind, int k) {
        int count = kind == KIND_CHALLENGE ? CHALLENGES_EACH * authorizationCount : there(kind);
        if (k < 0 || k >= count) {
            throw new NoSuchElementException();
        }
    }

    private int accountDetail(int k, int what) {
        switch (what) {
            case 0:
                return accounts[k].key;
            case 1:
                return ordersOf(k);
            default:
                return -1;
        }
    }

    private int ordersOf(int k) {
        int owned = 0;
        for (int o = 0; o < orderCount; o++) {
            if (orders[o].owner == k) {
                owned++;
            }
        }
        return owned;
    }

    private static final class Account {
        static final int CLOSED = 1;

        int state;
        int key;
    }

    private static final class Order {
        static final int PENDING = 0;
        static final int READY = 1;
        static final int PROCESSING = 2;
        static final int VALID = 3;
        static final int INVALID = 4;

        private static final int FIRST_AUTHORIZATION_DETAIL = 5;

        int state;
        int owner;
        int names;
        int expires;
        int certificate = NONE;
        int attached;
        final int[] authorizations = new int[MAX_NAMES_IN_ORDER];

        boolean isOpen() {
            return state == PENDING || state == READY;
        }

        void attach(int authorization) {
            if (attached < MAX_NAMES_IN_ORDER) {
                authorizations[attached] = authorization;
                attached++;
            }
        }

        void expireAt(int time) {
            if (isOpen() && expires <= time) {
                state = INVALID;
            }
        }

        int told(int what) {
            switch (what) {
                case 0:
                    return owner;
                case 1:
                    return names;
                case 2:
                    return expires;
                case 3:
                    return certificate;
                case 4:
                    return attached;
                default:
                    return authorizationTold(what);
            }
        }

        private int authorizationTold(int what) {
            return what >= FIRST_AUTHORIZATION_DETAIL
                            && what < FIRST_AUTHORIZATION_DETAIL + attached
                    ? authorizations[what - FIRST_AUTHORIZATION_DETAIL]
                    : -1;
        }
    }

    private static final class Authorization {
        static final int PENDING = 0;
        static final int VALID = 1;
        static final int INVALID = 2;
        static final int DEACTIVATED = 3;
        static final int EXPIRED = 4;

        int state;
        int owner;
        int name;
        int expires;

        boolean isLive() {
            return state == PENDING || state == VALID;
        }

        void expireAt(int time) {
            if (isLive() && expires <= time) {
                state = state == PENDING ? INVALID : EXPIRED;
            }
        }

        int told(int what) {
            switch (what) {
                case 0:
                    return owner;
                case 1:
                    return name;
                case 2:
                    return expires;
                default:
                    return -1;
            }
        }
    }

    private static final class Challenge {
        static final int PENDING = 0;
        static final int PROCESSING = 1;
        static final int VALID = 2;
        static final int INVALID = 3;

        int state;
        int token;
        int wrong;

        int told(int what) {
            switch (what) {
                case 0:
                    return token;
                case 1:
                    return wrong;
                default:
                    return -1;
            }
        }
    }

    private static final class Certificate {
        static final int GOOD = 0;
        static final int REVOKED = 1;

        int state;
        int order;
        int names;
        int key;
        int issued;
        int reason = NONE;

        int told(int what) {
            switch (what) {
                case 0:
                    return order;
                case 1:
                    return names;
                case 2:
                    return key;
                case 3:
                    return issued;
                case 4:
                    return reason;
                default:
                    return -1;
            }
        }
    }

    /** The nonces that are out, the oldest first. */
    private static final class Nonces {
        int count;
        private final int[] out = new int[MAX_NONCES];

        void putOut(int nonce) {
            if (count >= MAX_NONCES) {
                removeAt(0);
            }
            out[count] = nonce;
            count++;
        }

        /** Whether the nonce was out; the oldest one that is like it is not out any more. */
        boolean takeBack(int nonce) {
            for (int i = 0; i < count; i++) {
                if (out[i] == nonce) {
                    removeAt(i);
                    return true;
                }
            }
            return false;
        }

        private void removeAt(int place) {
            for (int i = place; i + 1 < count; i++) {
                out[i] = out[i + 1];
            }
            count--;
        }
    }

    private static final class Text {
        int size;
        final int[] bytes = new int[MAX_TEXT];

        boolean append(long source, int n) {
            if (n > MAX_TEXT - size) {
                return false;
            }
            for (int i = n - 1; i >= 0; i--) {
                bytes[size] = (int) (source >>> (BITS_IN_BYTE * i)) & 0xFF;
                size++;
            }
            return true;
        }
    }

    /** Reads a request out of a text; after the first thing that is wrong nothing more is read. */
    private static final class Request {
        private static final int ROW = 48;
        private static final int NUMBER = 2;
        private static final int MAX_NUMBER_LENGTH = 4;
        private static final int MAX_LENGTH = 127;
        private static final int MAX_FIRST_BYTE = 127;

        int key;
        int names;
        private int at;
        private boolean sound;

        /** Whether the text is a request; key and names tell something only if it is. */
        boolean readFrom(Text text) {
            at = 0;
            sound = true;
            int end = readRowEnd(text, text.size);
            sound = sound && end == text.size;
            key = readNumber(text, end);
            names = readNames(text, readRowEnd(text, end));
            int sig = readNumber(text, end);
            return sound && at == end && isKey(key) && isRight(sig, signedDigest(), key);
        }

        private int signedDigest() {
            return digestEnd(mix(mix(mix(0, FOR_REQUEST), key), names));
        }

        private int readNames(Text text, int end) {
            int sum = 0;
            int last = NONE;
            for (int i = 0; i < NAMES && sound && at < end; i++) {
                int name = readNumber(text, end);
                sound = sound && name > last && name < NAMES;
                sum = sound ? sum | 1 << name : sum;
                last = name;
            }
            sound = sound && sum != 0 && at == end;
            return sum;
        }

        private int readNumber(Text text, int end) {
            skipTag(text, end, NUMBER);
            int length = readLength(text, end);
            sound = sound && length >= 1 && length <= MAX_NUMBER_LENGTH;
            int first = readByte(text, end);
            sound = sound && first <= MAX_FIRST_BYTE;
            int value = first;
            for (int i = 1; i < length && sound; i++) {
                int next = readByte(text, end);
                // A leading 0 is there only to keep the first byte below 128.
                sound = sound && (i > 1 || first != 0 || next > MAX_FIRST_BYTE);
                value = value << BITS_IN_BYTE | next;
            }
            return value;
        }

        private int readRowEnd(Text text, int end) {
            skipTag(text, end, ROW);
            int length = readLength(text, end);
            sound = sound && length <= end - at;
            return sound ? at + length : at;
        }

        private void skipTag(Text text, int end, int tag) {
            int found = readByte(text, end);
            sound = sound && found == tag;
        }

        /** A length above 127 is never sound: the text has no room for what would follow it. */
        private int readLength(Text text, int end) {
            int length = readByte(text, end);
            sound = sound && length <= MAX_LENGTH;
            return length;
        }

        private int readByte(Text text, int end) {
            sound = sound && at < end && at < text.size;
            return sound ? text.bytes[at++] : 0;
        }
    }
}
