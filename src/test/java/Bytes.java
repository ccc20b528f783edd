import java.util.Arrays;

/** Tells bytes to the tape of a house. */
final class Bytes {
    private Bytes() {
    }

    /** Feeds just these bytes behind the tape, and answers how many it has then. */
    static int tell(RankHouse house, int... bytes) {
        int length = house.count(4);
        for (int at = 0; at < bytes.length; at += 20) {
            house.feed(word(bytes, at), word(bytes, at + 4), word(bytes, at + 8), word(bytes, at + 12),
                    word(bytes, at + 16));
        }
        house.end(length + bytes.length);
        return house.count(4);
    }

    static int word(int[] bytes, int at) {
        int word = 0;
        for (int i = at; i < at + 4; i++) {
            word = word << 8 | (i < bytes.length ? bytes[i] & 255 : 0);
        }
        return word;
    }

    static int[] joined(int[] head, int... rest) {
        int[] all = Arrays.copyOf(head, head.length + rest.length);
        System.arraycopy(rest, 0, all, head.length, rest.length);
        return all;
    }

    /** As few bytes as can be. */
    static int[] unsigned(int number) {
        int[] bytes = {};
        int rest = number;
        while (rest > 127) {
            bytes = joined(bytes, rest & 127 | 128);
            rest >>= 7;
        }
        return joined(bytes, rest);
    }

    /**
     * BYTES, below 128 each, of n NODES and so many EDGES: each NODE goes to the first NODES that there are, to all
     * of them as long as that leaves no EDGES over.
     */
    static int[] full(int n, int edges) {
        int[] bytes = {n};
        int left = edges;
        for (int u = 0; u < n; u++) {
            int k = Math.min(n, left);
            left -= k;
            int[] ends = new int[k];
            if (k > 0) {
                ends[0] = u == 0 ? 0 : 2 * u - 1;
            }
            bytes = joined(joined(bytes, k), ends);
        }
        return bytes;
    }
}
