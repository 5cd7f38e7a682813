/** All that an authority tells of itself, so that two of them can be compared. */
final class Image {
    /** How many details each kind has. */
    private static final int[] DETAILS = {2, 9, 3, 2, 5};
    /** Eight nonces can be out; two more would show that one came back. */
    private static final int NONCES_LOOKED_AT = 10;

    private Image() {}

    /** Takes the nonces in the end, so an authority can be looked at in this way only once. */
    static String of(Client c) {
        StringBuilder all = new StringBuilder();
        int[] there = {c.x.there(0), c.x.there(1), c.x.there(2), 2 * c.x.there(2), c.x.there(4)};
        for (int kind = 0; kind < there.length; kind++) {
            for (int k = 0; k < there[kind]; k++) {
                append(all, c, kind, k);
            }
        }
        all.append("\nnonces ").append(c.x.there(3));
        all.append("\ntime ").append(c.x.tick(0)).append("\ntext ").append(c.x.csr());
        all.append(", ").append(c.x.clear()).append(" bytes\nout");
        int from = Math.max(0, c.drawn.size() - NONCES_LOOKED_AT);
        for (int nonce : c.drawn.subList(from, c.drawn.size())) {
            all.append(' ').append(nonce).append(c.takes(nonce) ? '+' : '-');
        }
        return all.append("\nnext drawn ").append(c.x.nonce()).toString();
    }

    private static void append(StringBuilder all, Client c, int kind, int k) {
        all.append('\n').append(kind).append(' ').append(k).append(':');
        all.append(c.x.state(kind, k)).append(' ');
        for (int what = 0; what < DETAILS[kind]; what++) {
            all.append(c.x.detail(kind, k, what)).append(',');
        }
    }
}
