import java.util.NoSuchElementException;

/** Promise 9; what a request is has a test of its own. */
public final class FinishTest {
    public static void main(String[] args) {
        aCertificateIsIssued();
        theTextStays();
        theSignatureIsOfTheText();
        whatThereIsNot();
        anothersOrder();
        whatIsNotReady();
        requestsThatDoNotFit();
        twelveCertificates();
        Check.end();
    }

    private static Client scene() {
        Client c = new Client(71);
        c.open(10807);
        c.open(12317);
        c.x.tick(4);
        c.ready(0, Sums.sum(1, 2), 50);
        c.text(Sums.request(16637, 1, 2));
        return c;
    }

    private static void aCertificateIsIssued() {
        Client c = scene();
        c.x.tick(6);
        Check.due("the certificate", c.finish(0, 0), 0);
        Check.due("the order is PROCESSING", c.x.state(1, 0), 2);
        Check.due("the order's certificate", c.x.detail(1, 0, 3), 0);
        Check.due("certificates", c.x.there(4), 1);
        Check.due("it is GOOD", c.x.state(4, 0), 0);
        int[] details = {0, 6, 16637, 10, -1};
        for (int what = 0; what < details.length; what++) {
            Check.due("detail " + what, c.x.detail(4, 0, what), details[what]);
        }
        c.ready(1, 16, 50);
        c.text(Sums.request(10807, 4));
        Check.due("the key of another account will do", c.finish(1, 1), 1);
        Check.due("order of the second", c.x.detail(4, 1, 0), 1);
        Check.due("the second order's certificate", c.x.detail(1, 1, 3), 1);
    }

    private static void theTextStays() {
        Client c = scene();
        int csr = c.x.csr();
        c.finish(0, 0);
        Check.due("csr()", c.x.csr(), csr);
        int again = c.order(0, Sums.sum(1, 2), 50);
        Check.due("it will do again", c.finish(0, again), 1);
    }

    private static void theSignatureIsOfTheText() {
        Client c = scene();
        int nonce = c.x.nonce();
        int sig = c.sign(0, 4, 0, nonce, 0, c.x.csr());
        byte[] request = Sums.request(16637, 1, 2);
        c.feed(Sums.bytes(0));
        Check.refuses("another text", UnsupportedOperationException.class,
                () -> c.x.finish(0, nonce, 0, sig));
        c.text(request);
        Check.answers("the text again", 0, () -> c.x.finish(0, nonce, 0, sig));
    }

    /** "no order o" */
    private static void whatThereIsNot() {
        Client c = scene();
        for (int o : new int[] {-1, 1, 12, Integer.MAX_VALUE, Integer.MIN_VALUE}) {
            Check.refuses("order " + o, NoSuchElementException.class, () -> c.finish(0, o));
        }
    }

    /** "it is not the account's" */
    private static void anothersOrder() {
        Client c = scene();
        Check.refuses("another's", UnsupportedOperationException.class, () -> c.finish(1, 0));
        c.order(0, 4096, 50);
        Check.refuses("another's, before its state", UnsupportedOperationException.class,
                () -> c.finish(1, 1));
        Check.due("no certificate", c.x.there(4), 0);
        Check.due("the order stays READY", c.x.state(1, 0), 1);
    }

    /** "it is not READY" */
    private static void whatIsNotReady() {
        Client c = scene();
        int pending = c.order(0, 4096, 50);
        Check.refuses("PENDING", IllegalStateException.class, () -> c.finish(0, pending));
        int invalid = c.order(0, 8192, 50);
        c.deactivate(0, c.x.detail(1, invalid, 5));
        Check.refuses("INVALID", IllegalStateException.class, () -> c.finish(0, invalid));
        c.finish(0, 0);
        Check.refuses("PROCESSING", IllegalStateException.class, () -> c.finish(0, 0));
        c.x.publish();
        Check.refuses("VALID", IllegalStateException.class, () -> c.finish(0, 0));
        c.x.clear();
        Check.refuses("not READY, before the text", IllegalStateException.class,
                () -> c.finish(0, pending));
    }

    /** "the text is no request, its names are not the order's, or its key is the account's" */
    private static void requestsThatDoNotFit() {
        Client c = scene();
        byte[][] texts = {
            {}, Sums.request(16637, 1), Sums.request(16637, 2), Sums.request(16637, 1, 3),
            Sums.request(16637, 1, 2, 3), Sums.request(10807, 1, 2)
        };
        for (byte[] text : texts) {
            c.text(text);
            Check.refuses("a text of " + text.length, IllegalArgumentException.class,
                    () -> c.finish(0, 0));
            Check.due("the order stays READY", c.x.state(1, 0), 1);
            Check.due("no certificate", c.x.there(4), 0);
            Check.due("no nonce is out", c.x.there(3), 0);
        }
        c.rollover(0, 16637);
        c.text(Sums.request(16637, 1, 2));
        Check.refuses("the account's present key", IllegalArgumentException.class,
                () -> c.finish(0, 0));
        c.text(Sums.request(10807, 1, 2));
        Check.due("the key that it had", c.finish(0, 0), 0);
    }

    /** As many as there can be: a 13th would need a 13th order. */
    private static void twelveCertificates() {
        Client c = scene();
        c.finish(0, 0);
        for (int i = 1; i < 12; i++) {
            c.order(0, Sums.sum(1, 2), 50);
            Check.due("certificate " + i, c.finish(0, i), i);
        }
        Check.due("certificates", c.x.there(4), 12);
        Check.due("all are published", c.x.publish(), 12);
    }
}
