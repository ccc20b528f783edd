import java.util.NoSuchElementException;
import java.util.Random;

/** All promises: long runs of mixed calls, each answer beside the model's; the seeds are fixed. */
public final class ModelTest {
    private static final Due DUE = new Due("ModelTest");
    private static final int RUNS = 400;
    private static final int CALLS = 512;
    private static final int[] EDGE_NUMBERS = {-1, 0, 1, 2, 249, 250, 251, 1000, 1001, 1 << 30, (1 << 30) - 1,
        Integer.MIN_VALUE, Integer.MAX_VALUE};

    private final Random random;
    private final RankHouse house = new RankHouse();
    private final Model model = new Model();
    private final int usualNodes;
    private int calls = 0;

    private interface Answer {
        long get();
    }

    private ModelTest(int seed) {
        random = new Random(seed);
        usualNodes = seed % 10 == 0 ? 250 : seed % 10 == 1 ? 60 : 1 + random.nextInt(9);
    }

    public static void main(String[] args) {
        for (int seed = 0; seed < RUNS; seed++) {
            new ModelTest(seed).compare(seed);
        }
        DUE.end();
    }

    private void compare(int seed) {
        both("clear", () -> house.clear(usualNodes) ? 1 : 0, () -> model.clear(usualNodes) ? 1 : 0);
        // The most that one round makes: a hundred feeds, and write, end, read and fault.
        while (calls < CALLS - 104) {
            if (!round()) {
                DUE.tell("run " + seed + ", call " + calls);
                return;
            }
        }
    }

    private static long answer(Answer call) {
        try {
            return call.get();
        } catch (NoSuchElementException e) {
            return Long.MIN_VALUE;
        } catch (IllegalArgumentException e) {
            return Long.MIN_VALUE + 1;
        }
    }

    private boolean both(String name, Answer house, Answer model) {
        calls++;
        long got = answer(house);
        long want = answer(model);
        DUE.is(name, got, want);
        return got == want;
    }

    private int node() {
        return random.nextInt(25) == 0 ? edgeNumber() : random.nextInt(model.count(0));
    }

    private int edgeNumber() {
        return EDGE_NUMBERS[random.nextInt(EDGE_NUMBERS.length)];
    }

    private int what(int most) {
        return random.nextInt(25) == 0 ? edgeNumber() : random.nextInt(most + 1);
    }

    private boolean round() {
        int u = node();
        int v = node();
        int k = random.nextInt(20) == 0 ? edgeNumber() : random.nextInt(4);
        switch (random.nextInt(24)) {
            case 0:
                return random.nextInt(4) > 0 || tape();
            case 1:
            case 2:
            case 3:
            case 4:
            case 5:
                return both("add(" + u + ", " + v + ")", () -> house.add(u, v) ? 1 : 0,
                        () -> model.add(u, v) ? 1 : 0);
            case 6:
                return both("cut(" + u + ", " + v + ")", () -> house.cut(u, v) ? 1 : 0,
                        () -> model.cut(u, v) ? 1 : 0);
            case 7:
                return both("has(" + u + ", " + v + ")", () -> house.has(u, v) ? 1 : 0,
                        () -> model.has(u, v) ? 1 : 0);
            case 8: {
                int what = what(1);
                return both("edges(" + u + ", " + what + ")", () -> house.edges(u, what),
                        () -> model.edges(u, what));
            }
            case 9: {
                int what = what(1);
                return both("other(" + u + ", " + what + ", " + k + ")", () -> house.other(u, what, k),
                        () -> model.other(u, what, k));
            }
            case 10:
                return weightOrDamping(u);
            case 11:
            case 12:
            case 13:
                return run();
            case 14:
                return both("rank(" + u + ")", () -> house.rank(u), () -> model.rank(u));
            case 15:
            case 16: {
                int what = what(4);
                return both("look(" + what + ")", () -> house.look(what), () -> model.look(what));
            }
            case 17:
                return both("top(" + u + ")", () -> house.top(u), () -> model.top(u));
            case 18:
                return gives(u, v);
            case 19:
                return both("giver(" + v + ", " + k + ")", () -> house.giver(v, k), () -> model.giver(v, k));
            case 20:
                return both("write()", house::write, model::write);
            case 21: {
                int at = random.nextInt(10) == 0 ? edgeNumber() : random.nextInt(model.count(5) + 1);
                return both("octet(" + at + ")", () -> house.octet(at), () -> model.octet(at));
            }
            case 22: {
                int what = what(7);
                return both("count(" + what + ")", () -> house.count(what), () -> model.count(what));
            }
            default:
                return rare();
        }
    }

    private boolean gives(int u, int v) {
        // A NODE at the other end makes an EDGE that is there likely.
        int end = random.nextBoolean() ? model.other(u, 0, 0) : v;
        return both("gives(" + u + ", " + end + ")", () -> house.gives(u, end), () -> model.gives(u, end));
    }

    private boolean rare() {
        switch (random.nextInt(12)) {
            case 0: {
                int n = random.nextBoolean() ? usualNodes : edgeNumber();
                return both("clear(" + n + ")", () -> house.clear(n) ? 1 : 0, () -> model.clear(n) ? 1 : 0);
            }
            case 1:
                calls++;
                house.again();
                model.again();
                return true;
            case 2:
                return tape();
            default:
                return both("fault()", house::fault, model::fault);
        }
    }

    private boolean weightOrDamping(int u) {
        if (random.nextInt(3) > 0) {
            int[] weights = {0, 0, 1, 2, 3, 999, 1000, 1001, -1};
            int w = weights[random.nextInt(weights.length)];
            return both("weight(" + u + ", " + w + ")", () -> house.weight(u, w) ? 1 : 0,
                    () -> model.weight(u, w) ? 1 : 0);
        }
        int most = (1 << 30) - 1;
        int[][] pairs = {{0, 1}, {1, 2}, {17, 20}, {99, 100}, {most - 1, most}, {0, most}, {1, most}, {1, 1},
            {-1, 1}, {0, 0}, {0, 1 << 30}, {random.nextInt(most), most}};
        int[] pair = pairs[random.nextInt(pairs.length)];
        return both("damping(" + pair[0] + ", " + pair[1] + ")", () -> house.damping(pair[0], pair[1]) ? 1 : 0,
                () -> model.damping(pair[0], pair[1]) ? 1 : 0);
    }

    private boolean run() {
        int[] steps = {0, 1, 1, 2, 3, usualNodes > 60 ? 5 : 100, -1, 101};
        long[] smalls = {0, 0, 0, 1, 100, 1L << 31, 1L << 33, Long.MAX_VALUE, -1, model.look(1), model.look(1) - 1};
        int n = steps[random.nextInt(steps.length)];
        long small = smalls[random.nextInt(smalls.length)];
        return both("run(" + n + ", " + small + ")", () -> house.run(n, small), () -> model.run(n, small));
    }

    /** BYTES of the GRAPH itself, whole or with a few bytes that are not as they were. */
    private boolean tape() {
        int length = Math.min(model.write(), 2000 - model.count(4));
        both("write()", house::write, () -> model.count(5));
        int[] bytes = new int[length];
        for (int i = 0; i < length; i++) {
            bytes[i] = model.octet(i);
        }
        int changes = length == 0 ? 0 : random.nextInt(3);
        for (int i = 0; i < changes; i++) {
            int[] values = {0, 1, 2, 3, 127, 128, 129, 130, 255, random.nextInt(256)};
            int at = random.nextInt(4) > 0 ? random.nextInt(length) : length - 1;
            bytes[at] = values[random.nextInt(values.length)];
        }
        boolean alike = true;
        for (int at = 0; at < length; at += 20) {
            int a = at;
            alike &= both("feed", () -> house.feed(Bytes.word(bytes, a), Bytes.word(bytes, a + 4),
                    Bytes.word(bytes, a + 8), Bytes.word(bytes, a + 12), Bytes.word(bytes, a + 16)),
                    () -> model.feed(Bytes.word(bytes, a), Bytes.word(bytes, a + 4), Bytes.word(bytes, a + 8),
                    Bytes.word(bytes, a + 12), Bytes.word(bytes, a + 16)));
        }
        int end = random.nextInt(6) == 0 ? length - 2 + random.nextInt(5) : length;
        alike &= both("end(" + end + ")", () -> house.end(end) ? 1 : 0, () -> model.end(end) ? 1 : 0);
        if (random.nextInt(8) > 0) {
            alike &= both("read()", house::read, model::read);
            alike &= both("fault()", house::fault, model::fault);
        }
        return alike;
    }
}
