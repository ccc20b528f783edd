import java.util.NoSuchElementException;

/** A house of ranks; the words in capitals are the terms of the document. */
public final class RankHouse {
    public static final int NONE = -1;

    private static final long ONE = 1L << 32;
    private static final int MOST_NODES = 250;
    private static final int MOST_EDGES = 2500;
    private static final int MOST_WEIGHT = 1000;
    private static final int MOST_STEPS = 100;
    private static final int DAMPING_LIMIT = 1 << 30;

    private static final int MOST_TAPE = 2000;
    private static final int FEED_BYTES = 20;
    private static final int MOST_UNSIGNED = 65535;
    private static final int LAST_SHIFT = 14;
    // A byte an EDGE, two for n; and for each NODE two that tell how many EDGES, and a second byte
    // for its first EDGE and for one gap: two gaps above 128 would lead beyond the last NODE.
    private static final int MOST_OUT = 2 + 4 * MOST_NODES + MOST_EDGES;

    private static final int ENDS_WITHIN = 1;
    private static final int WRONG_UNSIGNED = 2;
    private static final int WRONG_GRAPH = 3;
    private static final int BYTE_BEHIND = 4;

    private static final int FROM = 0;
    private static final int TO = 1;

    private final ByteRow tape = new ByteRow(MOST_TAPE);
    private final ByteRow out = new ByteRow(MOST_OUT);
    private final Decoder decoder = new Decoder();
    private final Ranks ranks = new Ranks();
    private final Order order = new Order();
    private final Graph graph = new Graph();

    public RankHouse() {
        ranks.begin(graph.nodes);
    }

    public int feed(int a, int b, int c, int d, int e) {
        if (tape.length > MOST_TAPE - FEED_BYTES) {
            return NONE;
        }
        tape.putFour(a);
        tape.putFour(b);
        tape.putFour(c);
        tape.putFour(d);
        tape.putFour(e);
        return tape.length;
    }

    public boolean end(int n) {
        if (n < 0 || n > tape.length) {
            return false;
        }
        tape.length = n;
        return true;
    }

    public int read() {
        // Two passes, so that a FAULT leaves the GRAPH alone without a second GRAPH to write to.
        boolean sound = decoder.decode(tape, null);
        if (sound) {
            decoder.decode(tape, graph);
        }
        tape.length = 0;
        return beginIf(sound) ? graph.size : -1 - decoder.place;
    }

    public int fault() {
        return decoder.kind;
    }

    public boolean clear(int n) {
        if (!Graph.canHave(n)) {
            return false;
        }
        graph.reset(n);
        ranks.begin(graph.nodes);
        return true;
    }

    public boolean add(int u, int v) {
        return beginIf(graph.join(u, v));
    }

    public boolean cut(int u, int v) {
        return beginIf(graph.part(u, v));
    }

    public boolean has(int u, int v) {
        return graph.joins(u, v);
    }

    public int edges(int u, int what) throws NoSuchElementException {
        if (!graph.isNode(u) || (what != FROM && what != TO)) {
            throw new NoSuchElementException();
        }
        return what == FROM ? graph.outOf(u) : graph.into(u);
    }

    public int other(int u, int what, int k) {
        if (what == FROM) {
            return graph.target(u, k);
        }
        return what == TO ? graph.source(u, k) : NONE;
    }

    public boolean weight(int u, int w) {
        return beginIf(graph.weigh(u, w));
    }

    public boolean damping(int p, int q) {
        return beginIf(ranks.damp(p, q));
    }

    public int run(int n, long small) throws IllegalArgumentException {
        if (n < 0 || n > MOST_STEPS || small < 0) {
            throw new IllegalArgumentException();
        }
        int made = 0;
        while (made < n && !ranks.areStill(small)) {
            ranks.step(graph);
            made++;
        }
        return made;
    }

    public void again() {
        ranks.begin(graph.nodes);
    }

    public long rank(int u) throws NoSuchElementException {
        if (!graph.isNode(u)) {
            throw new NoSuchElementException();
        }
        return ranks.now[u];
    }

    public long look(int what) {
        switch (what) {
            case 0:
                return ranks.sum(graph);
            case 1:
                return ranks.change;
            case 2:
                return ranks.bound(graph);
            case 3:
                return ranks.steps;
            case 4:
                return ranks.bareSum(graph);
            default:
                return NONE;
        }
    }

    public int top(int k) {
        order.size = 0;
        for (int u = 0; u < graph.nodes; u++) {
            order.place(u, ranks.now[u]);
        }
        return order.node(k);
    }

    public long gives(int u, int v) {
        return graph.joins(u, v) ? ranks.share(graph, u) : NONE;
    }

    public int giver(int v, int k) {
        order.size = 0;
        for (int u = 0; u < graph.nodes; u++) {
            if (graph.joins(u, v)) {
                order.place(u, ranks.share(graph, u));
            }
        }
        return order.node(k);
    }

    public int write() {
        out.length = 0;
        out.putUnsigned(graph.nodes);
        for (int u = 0; u < graph.nodes; u++) {
            putNode(u);
        }
        return out.length;
    }

    public int octet(int k) throws NoSuchElementException {
        if (k < 0 || k >= out.length) {
            throw new NoSuchElementException();
        }
        return out.bytes[k];
    }

    public int count(int what) {
        switch (what) {
            case 0:
                return graph.nodes;
            case 1:
                return graph.size;
            case 2:
                return graph.bareNodes();
            case 3:
                return graph.whole;
            case 4:
                return tape.length;
            case 5:
                return out.length;
            case 6:
                return ranks.p;
            case 7:
                return ranks.q;
            default:
                return NONE;
        }
    }

    private boolean beginIf(boolean done) {
        if (done) {
            ranks.begin(graph.nodes);
        }
        return done;
    }

    private void putNode(int u) {
        int k = graph.outOf(u);
        out.putUnsigned(k);
        int ahead = NONE;
        for (int i = 0; i < k; i++) {
            int v = graph.target(u, i);
            if (i > 0) {
                out.putUnsigned(v - ahead - 1);
            } else {
                out.putUnsigned(v < u ? 2 * (u - v) - 1 : 2 * (v - u));
            }
            ahead = v;
        }
    }

    // DIV. The divisor is 0 for the share of a BARE NODE alone, and that share is nothing.
    private static long quotient(long a, long b) {
        return b > 0 ? a / b : 0;
    }

    /** Bytes, 0 to 255 each, in a row that is made once. */
    private static final class ByteRow {
        private final int[] bytes;
        private int length = 0;

        ByteRow(int most) {
            bytes = new int[Math.max(most, 0)];
        }

        void put(int octet) {
            if (length < bytes.length) {
                bytes[length] = octet & 255;
                length++;
            }
        }

        void putFour(int number) {
            put(number >>> 24);
            put(number >>> 16);
            put(number >>> 8);
            put(number);
        }

        void putUnsigned(int number) {
            int rest = number;
            for (int shift = 0; shift < LAST_SHIFT && rest > 127; shift += 7) {
                put(128 | rest & 127);
                rest >>>= 7;
            }
            put(rest);
        }
    }

    /** Looks for the first FAULT along BYTES, and makes a GRAPH of them if it is given one. */
    private static final class Decoder {
        private int next = 0;
        private int nodes = 0;
        private int size = 0;
        private int kind = 0;
        private int place = 0;

        boolean decode(ByteRow tape, Graph graph) {
            next = 0;
            kind = 0;
            size = 0;
            nodes = unsigned(tape);
            if (nodes == NONE) {
                return false;
            }
            if (!Graph.canHave(nodes)) {
                return refuse(WRONG_GRAPH, 0);
            }
            if (graph != null) {
                graph.reset(nodes);
            }
            for (int u = 0; u < nodes; u++) {
                if (!decodeNode(tape, graph, u)) {
                    return false;
                }
            }
            return next >= tape.length || refuse(BYTE_BEHIND, next);
        }

        private boolean decodeNode(ByteRow tape, Graph graph, int u) {
            int start = next;
            int k = unsigned(tape);
            if (k == NONE) {
                return false;
            }
            if (k > nodes || k > MOST_EDGES - size) {
                return refuse(WRONG_GRAPH, start);
            }
            size += k;
            int v = NONE;
            for (int i = 0; i < k; i++) {
                start = next;
                int code = unsigned(tape);
                if (code == NONE) {
                    return false;
                }
                v = i > 0 ? v + 1 + code : u + signed(code);
                if (v < 0 || v >= nodes) {
                    return refuse(WRONG_GRAPH, start);
                }
                if (graph != null) {
                    graph.join(u, v);
                }
            }
            return true;
        }

        private int unsigned(ByteRow tape) {
            int start = next;
            int value = 0;
            for (int shift = 0; shift <= LAST_SHIFT; shift += 7) {
                if (next >= tape.length) {
                    refuse(ENDS_WITHIN, tape.length);
                    return NONE;
                }
                int octet = tape.bytes[next];
                next++;
                value += (octet & 127) << shift;
                if (octet < 128) {
                    boolean tooLong = shift > 0 && octet == 0;
                    return tooLong || value > MOST_UNSIGNED ? refuseUnsigned(start) : value;
                }
            }
            // Whatever came behind three bytes that go on, it would be too long or too great.
            return refuseUnsigned(start);
        }

        private int refuseUnsigned(int start) {
            refuse(WRONG_UNSIGNED, start);
            return NONE;
        }

        private boolean refuse(int why, int where) {
            kind = why;
            place = where;
            return false;
        }

        private static int signed(int code) {
            return (code & 1) == 0 ? code >> 1 : -((code + 1) >> 1);
        }
    }

    /** EDGES by the NODE they go from, then by the NODE they go to; those from u begin at first[u]. */
    private static final class Graph {
        private final int[] first = new int[MOST_NODES + 1];
        private final int[] targets = new int[MOST_EDGES];
        private final int[] weights = new int[MOST_NODES];
        private int nodes = 1;
        private int size = 0;
        private int whole = 1;

        Graph() {
            weights[0] = 1;
        }

        static boolean canHave(int n) {
            return n >= 1 && n <= MOST_NODES;
        }

        void reset(int n) {
            if (!canHave(n)) {
                return;
            }
            nodes = n;
            size = 0;
            whole = n;
            for (int u = 0; u < n; u++) {
                weights[u] = 1;
                first[u] = 0;
            }
            first[n] = 0;
        }

        boolean isNode(int u) {
            return u >= 0 && u < nodes;
        }

        int outOf(int u) {
            return isNode(u) ? first[u + 1] - first[u] : 0;
        }

        int into(int v) {
            int found = 0;
            for (int i = 0; i < size; i++) {
                if (targets[i] == v) {
                    found++;
                }
            }
            return found;
        }

        int target(int u, int k) {
            return k >= 0 && k < outOf(u) ? targets[first[u] + k] : NONE;
        }

        int source(int v, int k) {
            int ahead = 0;
            for (int u = 0; u < nodes; u++) {
                if (joins(u, v)) {
                    if (ahead == k) {
                        return u;
                    }
                    ahead++;
                }
            }
            return NONE;
        }

        boolean joins(int u, int v) {
            if (!isNode(u) || !isNode(v)) {
                return false;
            }
            int at = spot(u, v);
            return at < first[u + 1] && targets[at] == v;
        }

        boolean join(int u, int v) {
            if (!isNode(u) || !isNode(v) || size >= MOST_EDGES || joins(u, v)) {
                return false;
            }
            int at = spot(u, v);
            System.arraycopy(targets, at, targets, at + 1, size - at);
            targets[at] = v;
            grow(u, 1);
            return true;
        }

        boolean part(int u, int v) {
            if (!joins(u, v)) {
                return false;
            }
            int at = spot(u, v);
            System.arraycopy(targets, at + 1, targets, at, size - at - 1);
            grow(u, -1);
            return true;
        }

        boolean weigh(int u, int w) {
            if (!isNode(u) || w < 0 || w > MOST_WEIGHT || whole - weights[u] + w == 0) {
                return false;
            }
            whole += w - weights[u];
            weights[u] = w;
            return true;
        }

        int bareNodes() {
            int found = 0;
            for (int u = 0; u < nodes; u++) {
                if (outOf(u) == 0) {
                    found++;
                }
            }
            return found;
        }

        private int spot(int u, int v) {
            int at = first[u];
            while (at < first[u + 1] && targets[at] < v) {
                at++;
            }
            return at;
        }

        private void grow(int u, int more) {
            size += more;
            for (int i = u + 1; i <= nodes; i++) {
                first[i] += more;
            }
        }
    }

    /** RANKS, how many STEPS led to them, and what their BOUND hangs on. */
    private static final class Ranks {
        private long[] now = new long[MOST_NODES];
        private long[] next = new long[MOST_NODES];
        private int p = 17;
        private int q = 20;
        private int steps;
        private long change;
        private long error;

        void begin(int n) {
            long each = quotient(ONE, n);
            long left = ONE - each * n;
            for (int u = 0; u < n; u++) {
                now[u] = u < left ? each + 1 : each;
            }
            steps = 0;
            change = 2 * ONE;
            error = 2 * ONE;
        }

        boolean damp(int newP, int newQ) {
            if (newP < 0 || newP >= newQ || newQ >= DAMPING_LIMIT) {
                return false;
            }
            p = newP;
            q = newQ;
            return true;
        }

        boolean areStill(long small) {
            return steps > 0 && change <= small;
        }

        // RANKS together never go above ONE, so no product here comes to 2^63.
        void step(Graph graph) {
            long toAll = quotient((q - p) * ONE + p * bareSum(graph), q);
            for (int v = 0; v < graph.nodes; v++) {
                next[v] = quotient(toAll * graph.weights[v], graph.whole);
            }
            for (int u = 0; u < graph.nodes; u++) {
                shareOut(graph, u);
            }
            change = distance(graph.nodes);
            long[] old = now;
            now = next;
            next = old;
            steps++;
            error = quotient(error * p, q) + 1;
        }

        long share(Graph graph, int u) {
            return quotient(p * now[u], (long) q * graph.outOf(u));
        }

        long sum(Graph graph) {
            long all = 0;
            for (int u = 0; u < graph.nodes; u++) {
                all += now[u];
            }
            return all;
        }

        long bareSum(Graph graph) {
            long all = 0;
            for (int u = 0; u < graph.nodes; u++) {
                if (graph.outOf(u) == 0) {
                    all += now[u];
                }
            }
            return all;
        }

        long bound(Graph graph) {
            long roundings = graph.size + 2L * graph.nodes;
            return error + quotient(roundings * q, q - p) + 1;
        }

        private void shareOut(Graph graph, int u) {
            long each = share(graph, u);
            int behind = graph.first[u + 1];
            for (int i = graph.first[u]; i < behind; i++) {
                next[graph.targets[i]] += each;
            }
        }

        private long distance(int n) {
            long all = 0;
            for (int u = 0; u < n; u++) {
                all += Math.abs(next[u] - now[u]);
            }
            return all;
        }
    }

    /** NODES by worth, the greatest first; of like ones the one that was placed first stays ahead. */
    private static final class Order {
        private final int[] nodes = new int[MOST_NODES];
        private final long[] worths = new long[MOST_NODES];
        private int size = 0;

        void place(int node, long worth) {
            if (size >= MOST_NODES) {
                return;
            }
            int at = size;
            while (at > 0 && worths[at - 1] < worth) {
                nodes[at] = nodes[at - 1];
                worths[at] = worths[at - 1];
                at--;
            }
            nodes[at] = node;
            worths[at] = worth;
            size++;
        }

        int node(int k) {
            return k >= 0 && k < size ? nodes[k] : NONE;
        }
    }
}
