import java.util.NoSuchElementException;
import java.util.function.Supplier;

/**
 * Looks at refused calls: what they throw, and what they change. The call is made in one of two
 * scenes that are the same; afterwards both have to be the same but for what the document says.
 */
final class Refusal {
    static final Class<? extends RuntimeException> NO_SUCH = NoSuchElementException.class;
    static final Class<? extends RuntimeException> UNSUPPORTED =
            UnsupportedOperationException.class;
    static final Class<? extends RuntimeException> ARGUMENT = IllegalArgumentException.class;
    static final Class<? extends RuntimeException> STATE = IllegalStateException.class;

    /** A call that takes no nonce. */
    interface Call {
        long on(Client c);
    }

    /** A signed call of account k by a Client, for which it takes one nonce. */
    interface SignedCall {
        long of(Client c, int k);
    }

    private final Supplier<Client> scene;
    private final int closed;
    private final int none;

    /** The scene has a CLOSED account and no account of the number none. */
    Refusal(Supplier<Client> scene, int closed, int none) {
        this.scene = scene;
        this.closed = closed;
        this.none = none;
    }

    static Refusal inWorld() {
        return new Refusal(World::make, World.CLOSED, World.NO_ACCOUNT);
    }

    /** In the world of World, with another text. */
    static Refusal inWorldWithText(byte[] text) {
        return new Refusal(() -> withText(text), World.CLOSED, World.NO_ACCOUNT);
    }

    private static Client withText(byte[] text) {
        Client c = World.make();
        c.text(text);
        return c;
    }

    /** The call throws and changes nothing. */
    void plain(String what, Class<? extends RuntimeException> want, Call call) {
        Client c = scene.get();
        Check.refuses(what, want, () -> call.on(c));
        same(what, c, scene.get());
    }

    /** The call answers what is told and changes nothing. */
    void answered(String what, long want, Call call) {
        Client c = scene.get();
        Check.answers(what, want, () -> call.on(c));
        same(what, c, scene.get());
    }

    /** The call throws before it has looked at the nonce, which stays out. */
    void early(String what, Class<? extends RuntimeException> want, Client.Fault fault, Call call) {
        Client c = scene.get();
        c.fault = fault;
        Check.refuses(what + ", fault " + fault, want, () -> call.on(c));
        Client untouched = scene.get();
        untouched.nonce();
        same(what + ", fault " + fault, c, untouched);
    }

    /** The call throws after its nonce was accepted, which is not out any more. */
    void late(String what, Class<? extends RuntimeException> want, Call call) {
        Client c = scene.get();
        Check.refuses(what, want, () -> call.on(c));
        Client untouched = scene.get();
        untouched.takes(untouched.nonce());
        same(what, c, untouched);
    }

    /** A call that is refused late, and what comes before that if still more is wrong with it. */
    void afterSignature(
            String what, Class<? extends RuntimeException> want, int k, SignedCall call) {
        late(what, want, c -> call.of(c, k));
        beforeNonce(what, k, call);
    }

    /** Whatever a signed call is for, this is looked at first, and in this order. */
    void beforeNonce(String what, int k, SignedCall call) {
        early(what, UNSUPPORTED, Client.Fault.SIGNATURE, c -> call.of(c, k));
        early(what, ARGUMENT, Client.Fault.NONCE, c -> call.of(c, k));
        early(what, UNSUPPORTED, Client.Fault.BOTH, c -> call.of(c, k));
        for (Client.Fault fault : Client.Fault.values()) {
            early(what + " by no account", NO_SUCH, fault, c -> call.of(c, none));
            early(what + " by account -1", NO_SUCH, fault, c -> call.of(c, -1));
            early(what + " by a CLOSED one", UNSUPPORTED, fault, c -> call.of(c, closed));
        }
    }

    private static void same(String what, Client c, Client untouched) {
        String got = Image.of(c);
        String want = Image.of(untouched);
        String images = got + "\ninstead of\n" + want + "\nThis";
        Check.holds(what + " changes no more than it may:\n" + images, got.equals(want));
    }
}
