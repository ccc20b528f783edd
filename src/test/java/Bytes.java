/** Tells bytes to the tape of a house. */
final class Bytes {
    private Bytes() {
    }

    /** Feeds just these bytes behind the tape, and answers how many it has then. */
    static int tell(RankHouse house, int... bytes) {
        int length = house.count(4);
        for (int at = 0; at < bytes.length; at += 20) {
            house.feed(word(bytes, at), word(bytes, at + 4), word(bytes, at + 8), word(bytes, at + 12),
                    word(bytes, at + 16));
        }
        house.end(length + bytes.length);
        return house.count(4);
    }

    static int word(int[] bytes, int at) {
        int word = 0;
        for (int i = at; i < at + 4; i++) {
            word = word << 8 | (i < bytes.length ? bytes[i] & 255 : 0);
        }
        return word;
    }
}
