import java.util.NoSuchElementException;

/**
 * A call that is refused or throws leaves all as it was, and so does one that only asks. Each is made on one of
 * two houses that were made alike; then both must tell the same, and go on alike.
 */
public final class RefusedTest {
    private static final Due DUE = new Due("RefusedTest");
    private static final int LEAST = Integer.MIN_VALUE;
    private static final int GREATEST = Integer.MAX_VALUE;
    // Those of Scene.house().
    private static final int NODES = 4;
    private static final int TAPE = 7;
    private static final int OUT = 9;
    private static final int[] NO_NODES = {-1, NODES, 250, LEAST, GREATEST};

    private interface Making {
        RankHouse house();
    }

    private interface Asked {
        long of(RankHouse house);
    }

    public static void main(String[] args) {
        scene();
        refusedEnd();
        refusedFeed();
        refusedRead();
        refusedClear();
        refusedAddCutHas();
        refusedWeight();
        refusedDamping();
        throwingRun();
        throwingEdges();
        throwingRankAndOctet();
        noneOfOther();
        noneOfLookTopCount();
        noneOfGivesAndGiver();
        askingChangesNothing();
        DUE.end();
    }

    private static void leavesAll(String call, Making making, Asked asked, long want) {
        RankHouse one = making.house();
        RankHouse twin = making.house();
        DUE.is(call, asked.of(one), want);
        DUE.same(call, Scene.all(one), Scene.all(twin));
    }

    private static void refused(String call, Asked asked) {
        leavesAll(call, Scene::house, asked, 0);
    }

    private static void none(String call, Asked asked) {
        leavesAll(call, Scene::house, asked, RankHouse.NONE);
    }

    private static void throwing(String call, Class<?> want, Asked asked) {
        RankHouse one = Scene.house();
        RankHouse twin = Scene.house();
        Class<?> got = null;
        try {
            asked.of(one);
        } catch (RuntimeException e) {
            got = e.getClass();
        }
        DUE.same(call, "" + got, "" + want);
        DUE.same(call, Scene.all(one), Scene.all(twin));
    }

    private static void noSuchElement(String call, Asked asked) {
        throwing(call, NoSuchElementException.class, asked);
    }

    private static long bit(boolean answer) {
        return answer ? 1 : 0;
    }

    // The other tests mean little if the scene is not what they take it for.
    private static void scene() {
        RankHouse house = Scene.house();
        int[] counts = {NODES, 5, 1, 1002, TAPE, OUT, 3, 7};
        for (int what = 0; what < counts.length; what++) {
            DUE.is("count(" + what + ") of the scene", house.count(what), counts[what]);
        }
        DUE.is("fault() of the scene", house.fault(), 3);
        DUE.is("look(3) of the scene", house.look(3), 2);
        DUE.yes("CHANGE of the scene", house.look(1) > 0);
        DUE.is("read() of the scene", house.read(), 3);
    }

    private static void refusedEnd() {
        int[] wrong = {-1, TAPE + 1, 20, 2000, LEAST, GREATEST};
        for (int n : wrong) {
            refused("end(" + n + ")", house -> bit(house.end(n)));
        }
        leavesAll("end(1) of an empty tape", RefusedTest::emptyTape, house -> bit(house.end(1)), 0);
    }

    private static RankHouse emptyTape() {
        RankHouse house = Scene.house();
        house.end(0);
        return house;
    }

    private static RankHouse longTape(int length) {
        RankHouse house = Scene.house();
        for (int i = 0; i < 99; i++) {
            house.feed(0, 0, 0, 0, 0);
        }
        house.end(length - 20);
        house.feed(0, 0, 0, 0, 0);
        house.end(length);
        return house;
    }

    private static void refusedFeed() {
        int[] lengths = {1981, 1999, 2000};
        for (int length : lengths) {
            DUE.is("tape of the scene", longTape(length).count(4), length);
            leavesAll("feed to " + (length + 20), () -> longTape(length), house -> house.feed(-1, -1, -1, -1, -1),
                    RankHouse.NONE);
        }
    }

    // A read() with a FAULT empties the tape and tells its kind; all else stays.
    private static void refusedRead() {
        int[][] wrong = {{}, {4}, {4, 0x80, 0x00}, {0}, {4, 5}, {4, 1, 8, 0, 0, 0}, {2, 1, 0, 1, 4}, {1, 0, 0}};
        for (int[] bytes : wrong) {
            RankHouse one = emptyTape();
            Bytes.tell(one, bytes);
            DUE.yes("read()", one.read() < 0);
            RankHouse twin = emptyTape();
            DUE.same("read() with a FAULT", withoutKind(Scene.all(one)), withoutKind(Scene.all(twin)));
        }
    }

    private static String withoutKind(String seen) {
        return seen.replaceAll(" fault \\d", "");
    }

    private static void refusedClear() {
        int[] wrong = {0, 251, -1, 252, 1000, LEAST, GREATEST};
        for (int n : wrong) {
            refused("clear(" + n + ")", house -> bit(house.clear(n)));
        }
    }

    private static void refusedAddCutHas() {
        for (int u : NO_NODES) {
            refused("add(" + u + ", 0)", house -> bit(house.add(u, 0)));
            refused("add(0, " + u + ")", house -> bit(house.add(0, u)));
            refused("add(" + u + ", " + u + ")", house -> bit(house.add(u, u)));
            refused("cut(" + u + ", 0)", house -> bit(house.cut(u, 0)));
            refused("cut(0, " + u + ")", house -> bit(house.cut(0, u)));
            refused("cut(" + u + ", " + u + ")", house -> bit(house.cut(u, u)));
            refused("has(" + u + ", 0)", house -> bit(house.has(u, 0)));
            refused("has(0, " + u + ")", house -> bit(house.has(0, u)));
            refused("has(" + u + ", " + u + ")", house -> bit(house.has(u, u)));
        }
        int[][] there = {{0, 1}, {0, 3}, {1, 1}, {3, 0}, {3, 2}};
        for (int[] edge : there) {
            refused("add() of one that is there", house -> bit(house.add(edge[0], edge[1])));
        }
        int[][] notThere = {{0, 0}, {0, 2}, {1, 0}, {1, 2}, {2, 0}, {2, 3}, {3, 1}, {3, 3}};
        for (int[] edge : notThere) {
            refused("cut() of one that is not there", house -> bit(house.cut(edge[0], edge[1])));
            refused("has() of one that is not there", house -> bit(house.has(edge[0], edge[1])));
        }
    }

    private static RankHouse oneWeight() {
        RankHouse house = Scene.house();
        house.weight(0, 0);
        house.weight(3, 0);
        house.run(2, 0);
        return house;
    }

    private static void refusedWeight() {
        for (int u : NO_NODES) {
            refused("weight(" + u + ", 1)", house -> bit(house.weight(u, 1)));
        }
        int[] wrong = {-1, 1001, LEAST, GREATEST};
        for (int w : wrong) {
            refused("weight(0, " + w + ")", house -> bit(house.weight(0, w)));
            refused("weight(1, " + w + ")", house -> bit(house.weight(1, w)));
        }
        leavesAll("weight(2, 0): WHOLE would be 0", RefusedTest::oneWeight, house -> bit(house.weight(2, 0)), 0);
        leavesAll("weight(0, -1000)", RefusedTest::oneWeight, house -> bit(house.weight(0, -1000)), 0);
        leavesAll("weight(0, 0) of one NODE", RankHouse::new, house -> bit(house.weight(0, 0)), 0);
    }

    private static void refusedDamping() {
        int limit = 1 << 30;
        int[][] wrong = {{-1, 7}, {7, 7}, {8, 7}, {0, 0}, {1, 0}, {0, -1}, {-1, 0}, {-2, -1}, {0, limit}, {1, limit},
            {limit - 1, limit}, {limit - 1, limit - 1}, {limit, limit - 1}, {0, limit + 1}, {0, GREATEST},
            {LEAST, 7}, {LEAST, GREATEST}, {LEAST, LEAST}, {0, LEAST}, {GREATEST, GREATEST}, {GREATEST, LEAST}};
        for (int[] pair : wrong) {
            refused("damping(" + pair[0] + ", " + pair[1] + ")", house -> bit(house.damping(pair[0], pair[1])));
        }
    }

    private static void throwingRun() {
        int[] counts = {-1, 101, LEAST, GREATEST};
        for (int n : counts) {
            throwing("run(" + n + ", 0)", IllegalArgumentException.class, house -> house.run(n, 0));
            throwing("run(" + n + ", greatest)", IllegalArgumentException.class,
                    house -> house.run(n, Long.MAX_VALUE));
            throwing("run(" + n + ", -1)", IllegalArgumentException.class, house -> house.run(n, -1));
        }
        long[] smalls = {-1, Long.MIN_VALUE, LEAST};
        for (long small : smalls) {
            throwing("run(0, " + small + ")", IllegalArgumentException.class, house -> house.run(0, small));
            throwing("run(1, " + small + ")", IllegalArgumentException.class, house -> house.run(1, small));
            throwing("run(100, " + small + ")", IllegalArgumentException.class, house -> house.run(100, small));
        }
    }

    private static void throwingEdges() {
        for (int u : NO_NODES) {
            noSuchElement("edges(" + u + ", 0)", house -> house.edges(u, 0));
            noSuchElement("edges(" + u + ", 1)", house -> house.edges(u, 1));
            noSuchElement("edges(" + u + ", 2)", house -> house.edges(u, 2));
        }
        int[] others = {-1, 2, LEAST, GREATEST};
        for (int what : others) {
            noSuchElement("edges(0, " + what + ")", house -> house.edges(0, what));
            noSuchElement("edges(3, " + what + ")", house -> house.edges(3, what));
        }
    }

    private static void throwingRankAndOctet() {
        for (int u : NO_NODES) {
            noSuchElement("rank(" + u + ")", house -> house.rank(u));
        }
        int[] places = {-1, OUT, OUT + 1, 4000, LEAST, GREATEST};
        for (int k : places) {
            noSuchElement("octet(" + k + ")", house -> house.octet(k));
        }
    }

    private static void noneOfOther() {
        for (int u : NO_NODES) {
            none("other(" + u + ", 0, 0)", house -> house.other(u, 0, 0));
            none("other(" + u + ", 1, 0)", house -> house.other(u, 1, 0));
        }
        int[] whats = {-1, 2, LEAST, GREATEST};
        for (int what : whats) {
            none("other(0, " + what + ", 0)", house -> house.other(0, what, 0));
        }
        int[] beyond = {-1, 2, LEAST, GREATEST};
        for (int k : beyond) {
            none("other(0, 0, " + k + ")", house -> house.other(0, 0, k));
            none("other(1, 1, " + k + ")", house -> house.other(1, 1, k));
        }
        none("other(2, 0, 0) of a BARE NODE", house -> house.other(2, 0, 0));
    }

    private static void noneOfLookTopCount() {
        int[] looks = {-1, 5, LEAST, GREATEST};
        for (int what : looks) {
            none("look(" + what + ")", house -> house.look(what));
        }
        int[] counts = {-1, 8, LEAST, GREATEST};
        for (int what : counts) {
            none("count(" + what + ")", house -> house.count(what));
        }
        for (int k : NO_NODES) {
            none("top(" + k + ")", house -> house.top(k));
        }
    }

    private static void noneOfGivesAndGiver() {
        for (int u : NO_NODES) {
            none("gives(" + u + ", 0)", house -> house.gives(u, 0));
            none("gives(0, " + u + ")", house -> house.gives(0, u));
            none("gives(" + u + ", " + u + ")", house -> house.gives(u, u));
            none("giver(" + u + ", 0)", house -> house.giver(u, 0));
        }
        none("gives(1, 0) without the EDGE", house -> house.gives(1, 0));
        none("gives(2, 2) of a BARE NODE", house -> house.gives(2, 2));
        int[] beyond = {-1, 2, LEAST, GREATEST};
        for (int k : beyond) {
            none("giver(1, " + k + ")", house -> house.giver(1, k));
        }
    }

    private static void askingChangesNothing() {
        RankHouse one = Scene.house();
        RankHouse twin = Scene.house();
        DUE.same("asking", Scene.seen(one), Scene.seen(one));
        DUE.is("run(0, 0)", one.run(0, 0), 0);
        DUE.is("run(0, greatest)", one.run(0, Long.MAX_VALUE), 0);
        DUE.is("run(100, CHANGE)", one.run(100, one.look(1)), 0);
        DUE.yes("end() of the whole tape", one.end(TAPE));
        DUE.same("asking", Scene.all(one), Scene.all(twin));
    }
}
