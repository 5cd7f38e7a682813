/** Promise 10. */
public final class PublishTest {
    public static void main(String[] args) {
        Client c = new Client(91);
        c.open(10807);
        c.open(12317);
        Check.due("nothing to publish", c.x.publish(), 0);
        c.certify(0, 16637, 1);
        c.certify(1, 16637, 1);
        int ready = c.ready(0, 4, 50);
        int pending = c.order(0, 8, 50);
        int invalid = c.order(0, 16, 50);
        c.deactivate(0, c.x.detail(1, invalid, 5));
        Check.due("two of two accounts", c.x.publish(), 2);
        Check.due("the first is VALID", c.x.state(1, 0), 3);
        Check.due("the second is VALID", c.x.state(1, 1), 3);
        Check.due("READY stays", c.x.state(1, ready), 1);
        Check.due("PENDING stays", c.x.state(1, pending), 0);
        Check.due("INVALID stays", c.x.state(1, invalid), 4);
        Check.due("each once", c.x.publish(), 0);
        c.certify(0, 16637, 1);
        c.close(0);
        c.x.tick(1000);
        Check.due("a closed account's, long after", c.x.publish(), 1);
        Check.end();
    }
}
