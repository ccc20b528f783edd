import java.math.BigInteger;
import java.util.ArrayList;
import java.util.Comparator;
import java.util.List;
import java.util.NoSuchElementException;

/** The document's words once more, written for plainness alone and with numbers without limits. */
final class Model {
    private static final BigInteger ONE = BigInteger.TWO.pow(32);

    private int n = 1;
    private boolean[][] edge = new boolean[1][1];
    private int[] weight = {1};
    private BigInteger p = BigInteger.valueOf(17);
    private BigInteger q = BigInteger.valueOf(20);
    private List<BigInteger> x = new ArrayList<>();
    private int steps;
    private BigInteger change;
    private BigInteger e;
    private List<Integer> tape = new ArrayList<>();
    private List<Integer> out = new ArrayList<>();
    private int kind = 0;

    Model() {
        again();
    }

    static Model of(RankHouse house) {
        Model model = new Model();
        model.clear(house.count(0));
        for (int u = 0; u < model.n; u++) {
            for (int v = 0; v < model.n; v++) {
                model.edge[u][v] = house.has(u, v);
            }
        }
        return model;
    }

    int feed(int a, int b, int c, int d, int f) {
        if (tape.size() + 20 > 2000) {
            return -1;
        }
        int[] numbers = {a, b, c, d, f};
        for (int number : numbers) {
            for (int shift = 24; shift >= 0; shift -= 8) {
                tape.add(number >> shift & 255);
            }
        }
        return tape.size();
    }

    boolean end(int length) {
        if (length < 0 || length > tape.size()) {
            return false;
        }
        tape = new ArrayList<>(tape.subList(0, length));
        return true;
    }

    /** A FAULT on the way out of the reading. */
    private static final class Fault extends RuntimeException {
        private static final long serialVersionUID = 1;
        private final int kind;
        private final int place;

        Fault(int kind, int place) {
            this.kind = kind;
            this.place = place;
        }
    }

    private int at;

    private int unsigned() {
        int start = at;
        BigInteger value = BigInteger.ZERO;
        for (int shift = 0;; shift += 7) {
            if (shift == 21) {
                throw new Fault(2, start);
            }
            if (at == tape.size()) {
                throw new Fault(1, at);
            }
            int octet = tape.get(at++);
            value = value.add(BigInteger.valueOf(octet % 128).shiftLeft(shift));
            if (octet < 128) {
                break;
            }
        }
        int need = Math.max(1, (value.bitLength() + 6) / 7);
        if (at - start > need || value.compareTo(BigInteger.valueOf(65535)) > 0) {
            throw new Fault(2, start);
        }
        return value.intValue();
    }

    int read() {
        try {
            at = 0;
            int nodes = unsigned();
            if (nodes == 0 || nodes > 250) {
                throw new Fault(3, 0);
            }
            boolean[][] told = new boolean[nodes][nodes];
            int all = 0;
            for (int u = 0; u < nodes; u++) {
                int start = at;
                int k = unsigned();
                all += k;
                if (k > nodes || all > 2500) {
                    throw new Fault(3, start);
                }
                int v = 0;
                for (int i = 0; i < k; i++) {
                    start = at;
                    int code = unsigned();
                    if (i > 0) {
                        v += code + 1;
                    } else {
                        v = code % 2 == 0 ? u + code / 2 : u - (code + 1) / 2;
                    }
                    if (v < 0 || v >= nodes) {
                        throw new Fault(3, start);
                    }
                    told[u][v] = true;
                }
            }
            if (at < tape.size()) {
                throw new Fault(4, at);
            }
            clear(nodes);
            edge = told;
            kind = 0;
            return all;
        } catch (Fault fault) {
            kind = fault.kind;
            return -1 - fault.place;
        } finally {
            tape.clear();
        }
    }

    int fault() {
        return kind;
    }

    boolean clear(int nodes) {
        if (nodes < 1 || nodes > 250) {
            return false;
        }
        n = nodes;
        edge = new boolean[n][n];
        weight = new int[n];
        java.util.Arrays.fill(weight, 1);
        again();
        return true;
    }

    private boolean node(int u) {
        return u >= 0 && u < n;
    }

    boolean add(int u, int v) {
        if (!node(u) || !node(v) || edge[u][v] || count(1) == 2500) {
            return false;
        }
        edge[u][v] = true;
        again();
        return true;
    }

    boolean cut(int u, int v) {
        if (!has(u, v)) {
            return false;
        }
        edge[u][v] = false;
        again();
        return true;
    }

    boolean has(int u, int v) {
        return node(u) && node(v) && edge[u][v];
    }

    private List<Integer> ends(int u, int what) {
        List<Integer> ends = new ArrayList<>();
        for (int v = 0; v < n; v++) {
            if (what == 0 && edge[u][v] || what == 1 && edge[v][u]) {
                ends.add(v);
            }
        }
        return ends;
    }

    int edges(int u, int what) {
        if (!node(u) || what < 0 || what > 1) {
            throw new NoSuchElementException();
        }
        return ends(u, what).size();
    }

    private static int pick(List<Integer> list, int k) {
        return k < 0 || k >= list.size() ? -1 : list.get(k);
    }

    int other(int u, int what, int k) {
        return node(u) ? pick(ends(u, what), k) : -1;
    }

    boolean weight(int u, int w) {
        if (!node(u) || w < 0 || w > 1000) {
            return false;
        }
        int old = weight[u];
        weight[u] = w;
        if (count(3) == 0) {
            weight[u] = old;
            return false;
        }
        again();
        return true;
    }

    boolean damping(int newP, int newQ) {
        if (newP < 0 || newP >= newQ || newQ >= 1073741824) {
            return false;
        }
        p = BigInteger.valueOf(newP);
        q = BigInteger.valueOf(newQ);
        again();
        return true;
    }

    int run(int most, long small) {
        if (most < 0 || most > 100 || small < 0) {
            throw new IllegalArgumentException();
        }
        for (int made = 0; made < most; made++) {
            if (steps > 0 && change.compareTo(BigInteger.valueOf(small)) <= 0) {
                return made;
            }
            step();
        }
        return most;
    }

    private void step() {
        BigInteger bare = BigInteger.valueOf(look(4));
        BigInteger t = q.subtract(p).multiply(ONE).add(p.multiply(bare)).divide(q);
        List<BigInteger> y = new ArrayList<>();
        change = BigInteger.ZERO;
        for (int v = 0; v < n; v++) {
            BigInteger rank = t.multiply(BigInteger.valueOf(weight[v])).divide(BigInteger.valueOf(count(3)));
            for (int u : ends(v, 1)) {
                rank = rank.add(BigInteger.valueOf(gives(u, v)));
            }
            y.add(rank);
            change = change.add(rank.subtract(x.get(v)).abs());
        }
        x = y;
        steps++;
        e = e.multiply(p).divide(q).add(BigInteger.ONE);
    }

    void again() {
        x = new ArrayList<>();
        BigInteger[] parts = ONE.divideAndRemainder(BigInteger.valueOf(n));
        for (int i = 0; i < n; i++) {
            boolean more = BigInteger.valueOf(i).compareTo(parts[1]) < 0;
            x.add(more ? parts[0].add(BigInteger.ONE) : parts[0]);
        }
        steps = 0;
        change = ONE.add(ONE);
        e = ONE.add(ONE);
    }

    long rank(int u) {
        if (!node(u)) {
            throw new NoSuchElementException();
        }
        return x.get(u).longValueExact();
    }

    long look(int what) {
        BigInteger sum = BigInteger.ZERO;
        switch (what) {
            case 0:
            case 4:
                for (int u = 0; u < n; u++) {
                    sum = what == 0 || ends(u, 0).isEmpty() ? sum.add(x.get(u)) : sum;
                }
                return sum.longValueExact();
            case 1:
                return change.longValueExact();
            case 2:
                sum = BigInteger.valueOf(count(1) + 2 * n).multiply(q).divide(q.subtract(p));
                return sum.add(e).add(BigInteger.ONE).longValueExact();
            case 3:
                return steps;
            default:
                return -1;
        }
    }

    int top(int k) {
        List<Integer> nodes = new ArrayList<>();
        for (int u = 0; u < n; u++) {
            nodes.add(u);
        }
        nodes.sort(Comparator.comparing((Integer u) -> x.get(u)).reversed().thenComparing(u -> u));
        return pick(nodes, k);
    }

    long gives(int u, int v) {
        if (!has(u, v)) {
            return -1;
        }
        BigInteger k = BigInteger.valueOf(ends(u, 0).size());
        return p.multiply(x.get(u)).divide(q.multiply(k)).longValueExact();
    }

    int giver(int v, int k) {
        if (!node(v)) {
            return -1;
        }
        List<Integer> nodes = ends(v, 1);
        nodes.sort(Comparator.comparing((Integer u) -> gives(u, v)).reversed().thenComparing(u -> u));
        return pick(nodes, k);
    }

    private void put(int number) {
        int rest = number;
        while (rest >= 128) {
            out.add(rest % 128 + 128);
            rest /= 128;
        }
        out.add(rest);
    }

    int write() {
        out = new ArrayList<>();
        put(n);
        for (int u = 0; u < n; u++) {
            List<Integer> ends = ends(u, 0);
            put(ends.size());
            for (int i = 0; i < ends.size(); i++) {
                int v = ends.get(i);
                if (i > 0) {
                    put(v - ends.get(i - 1) - 1);
                } else {
                    put(v < u ? 2 * (u - v) - 1 : 2 * (v - u));
                }
            }
        }
        return out.size();
    }

    int octet(int k) {
        if (k < 0 || k >= out.size()) {
            throw new NoSuchElementException();
        }
        return out.get(k);
    }

    int count(int what) {
        int sum = 0;
        switch (what) {
            case 0:
                return n;
            case 1:
                for (int u = 0; u < n; u++) {
                    sum += ends(u, 0).size();
                }
                return sum;
            case 2:
                for (int u = 0; u < n; u++) {
                    sum += ends(u, 0).isEmpty() ? 1 : 0;
                }
                return sum;
            case 3:
                for (int w : weight) {
                    sum += w;
                }
                return sum;
            case 4:
                return tape.size();
            case 5:
                return out.size();
            case 6:
                return p.intValue();
            case 7:
                return q.intValue();
            default:
                return -1;
        }
    }
}
