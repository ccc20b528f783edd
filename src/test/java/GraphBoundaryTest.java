/** The boundary cases of promises 6 to 12: NODES, EDGES and WEIGHTS. */
public final class GraphBoundaryTest {
    private static final Due DUE = new Due("GraphBoundaryTest");
    private static final int[] SIZES = {1, 2, 3, 249, 250};

    public static void main(String[] args) {
        leastAndMostNodes();
        clearForgetsEdges();
        clearForgetsWeights();
        clearAsItWas();
        clearLeavesTheRest();
        addAtTheEnds();
        addTwice();
        addToItself();
        allEdgesOfASmallGraph();
        edgesNear2500();
        edgesAt2500();
        cutOnce();
        cutTheLastOne();
        cutOneWay();
        hasAtTheEnds();
        edgesAtTheEnds();
        otherAtTheEnds();
        otherByRisingNodes();
        leastAndMostWeight();
        weightOfNoNode();
        wholeNeverZero();
        wholeOfOneNode();
        mostWhole();
        doneBegins();
        refusedDoesNotBegin();
        DUE.end();
    }

    // "NODES 0 .. n - 1 (n from 1 to 250)"; promise 6: "false if n is not as told".
    private static void leastAndMostNodes() {
        RankHouse house = new RankHouse();
        for (int n : SIZES) {
            DUE.yes("clear(" + n + ")", house.clear(n));
            DUE.is("count(0)", house.count(0), n);
            DUE.is("count(1)", house.count(1), 0);
            DUE.is("count(2)", house.count(2), n);
            DUE.is("count(3)", house.count(3), n);
        }
        int[] wrong = {0, 251, -1, -250, 256, Integer.MIN_VALUE, Integer.MIN_VALUE + 1, Integer.MAX_VALUE};
        for (int n : wrong) {
            DUE.no("clear(" + n + ")", house.clear(n));
            DUE.is("count(0) behind clear(" + n + ")", house.count(0), 250);
        }
    }

    private static void clearForgetsEdges() {
        RankHouse house = Scene.graph(3, 0, 0, 1, 2, 2, 0);
        house.clear(2);
        DUE.no("has(0, 0)", house.has(0, 0));
        DUE.no("has(2, 0)", house.has(2, 0));
        house.clear(5);
        DUE.is("EDGES", house.count(1), 0);
        for (int u = 0; u < 5; u++) {
            DUE.is("edges(" + u + ", 0)", house.edges(u, 0), 0);
            DUE.is("edges(" + u + ", 1)", house.edges(u, 1), 0);
        }
        DUE.yes("add(1, 2) once more", house.add(1, 2));
    }

    private static void clearForgetsWeights() {
        RankHouse house = Scene.graph(4);
        house.weight(0, 0);
        house.weight(3, 1000);
        house.clear(2);
        DUE.is("WHOLE of less", house.count(3), 2);
        house.clear(4);
        DUE.is("WHOLE of more", house.count(3), 4);
        house.run(1, 0);
        for (int u = 0; u < 4; u++) {
            DUE.is("rank(" + u + ") of like WEIGHTS", house.rank(u), 1L << 30);
        }
    }

    private static void clearAsItWas() {
        RankHouse house = Scene.graph(3);
        house.run(2, 0);
        DUE.yes("clear(3) as it was", house.clear(3));
        DUE.is("no STEP made", house.look(3), 0);
        DUE.is("CHANGE", house.look(1), 1L << 33);
    }

    private static void clearLeavesTheRest() {
        RankHouse house = Scene.house();
        int[] counts = {2, 0, 2, 2, house.count(4), house.count(5), house.count(6), house.count(7)};
        DUE.yes("clear(2)", house.clear(2));
        for (int what = 0; what < counts.length; what++) {
            DUE.is("count(" + what + ") behind clear(2)", house.count(what), counts[what]);
        }
        DUE.is("fault()", house.fault(), 3);
        DUE.is("read() of the tape", house.read(), 3);
    }

    // Promise 7: "false, if there is no such NODE".
    private static void addAtTheEnds() {
        for (int n : SIZES) {
            RankHouse house = Scene.graph(n);
            int last = n - 1;
            DUE.no("add(-1, 0) of " + n, house.add(-1, 0));
            DUE.no("add(0, -1) of " + n, house.add(0, -1));
            DUE.no("add(n, 0) of " + n, house.add(n, 0));
            DUE.no("add(0, n) of " + n, house.add(0, n));
            DUE.no("add(-1, n) of " + n, house.add(-1, n));
            DUE.no("add(least, 0) of " + n, house.add(Integer.MIN_VALUE, 0));
            DUE.no("add(0, greatest) of " + n, house.add(0, Integer.MAX_VALUE));
            DUE.is("EDGES of " + n, house.count(1), 0);
            DUE.yes("add(last, 0) of " + n, house.add(last, 0));
            DUE.is("add(0, last) of " + n, house.add(0, last) ? 1 : 0, n > 1 ? 1 : 0);
            DUE.is("add(last, last) of " + n, house.add(last, last) ? 1 : 0, n > 1 ? 1 : 0);
            DUE.is("add(0, 0) of " + n, house.add(0, 0) ? 1 : 0, n > 1 ? 1 : 0);
            DUE.is("EDGES of " + n, house.count(1), n > 1 ? 4 : 1);
        }
    }

    // "no two alike"; promise 7: "it is there".
    private static void addTwice() {
        RankHouse house = Scene.graph(2);
        DUE.yes("add(0, 1)", house.add(0, 1));
        DUE.no("add(0, 1) once more", house.add(0, 1));
        DUE.is("EDGES", house.count(1), 1);
        DUE.yes("add(1, 0) is another one", house.add(1, 0));
        DUE.no("add(1, 0) once more", house.add(1, 0));
        DUE.no("add(0, 1) once more", house.add(0, 1));
        house.cut(0, 1);
        DUE.yes("add(0, 1) behind cut()", house.add(0, 1));
        DUE.is("EDGES", house.count(1), 2);
        DUE.is("edges(0, 0)", house.edges(0, 0), 1);
    }

    // "EDGES from one to another one or itself".
    private static void addToItself() {
        RankHouse house = new RankHouse();
        DUE.yes("add(0, 0)", house.add(0, 0));
        DUE.yes("has(0, 0)", house.has(0, 0));
        DUE.is("edges(0, 0)", house.edges(0, 0), 1);
        DUE.is("edges(0, 1)", house.edges(0, 1), 1);
        DUE.is("other(0, 0, 0)", house.other(0, 0, 0), 0);
        DUE.is("other(0, 1, 0)", house.other(0, 1, 0), 0);
        DUE.is("BARE NODES", house.count(2), 0);
        DUE.no("add(0, 0) once more", house.add(0, 0));
    }

    private static void allEdgesOfASmallGraph() {
        RankHouse house = Scene.graph(5);
        for (int i = 24; i >= 0; i--) {
            DUE.yes("add", house.add(i * 7 % 25 / 5, i * 7 % 25 % 5));
        }
        DUE.is("EDGES", house.count(1), 25);
        for (int i = 0; i < 25; i++) {
            DUE.no("add once more", house.add(i / 5, i % 5));
            DUE.is("other", house.other(i / 5, 0, i % 5), i % 5);
            DUE.is("other", house.other(i / 5, 1, i % 5), i % 5);
        }
        DUE.is("EDGES", house.count(1), 25);
    }

    // As near to 2500 as the 512 calls of an object lead: none of these is refused.
    private static void edgesNear2500() {
        RankHouse house = new RankHouse();
        Bytes.tell(house, Bytes.full(50, 1949));
        DUE.is("read()", house.read(), 1949);
        for (int i = 1949; i < 2340; i++) {
            if (!house.add(i / 50, i % 50)) {
                DUE.tell("add " + i + " was refused");
            }
        }
        DUE.is("count(1)", house.count(1), 2340);
        DUE.is("other(46, 0, 39)", house.other(46, 0, 39), 39);
        DUE.is("edges(0, 1)", house.edges(0, 1), 47);
        DUE.yes("cut(46, 39), the last one", house.cut(46, 39));
        DUE.yes("cut(0, 0), the first one", house.cut(0, 0));
        DUE.is("count(1)", house.count(1), 2338);
        DUE.is("other(46, 0, 38)", house.other(46, 0, 38), 38);
    }

    // "2500 at most"; promise 7: "or there are 2500". More calls than the 512: no fewer lead there.
    private static void edgesAt2500() {
        RankHouse house = new RankHouse();
        Bytes.tell(house, Bytes.full(51, 1948));
        house.read();
        for (int i = 1948; i < 2499; i++) {
            if (!house.add(i / 51, i % 51)) {
                DUE.tell("add " + i + " was refused");
            }
        }
        DUE.is("EDGES", house.count(1), 2499);
        DUE.yes("the last that is taken", house.add(50, 50));
        DUE.is("EDGES", house.count(1), 2500);
        house.run(1, 0);
        DUE.no("the first that is not", house.add(50, 49));
        DUE.no("one that is there", house.add(50, 50));
        DUE.is("EDGES", house.count(1), 2500);
        DUE.is("STEPS stay", house.look(3), 1);
        DUE.no("has(50, 49)", house.has(50, 49));
        DUE.yes("cut(0, 0)", house.cut(0, 0));
        DUE.yes("add(50, 49) behind cut()", house.add(50, 49));
        DUE.no("add(0, 0)", house.add(0, 0));
        DUE.is("write()", house.write(), 1 + 51 + 2500);
        DUE.yes("cut(50, 50), the last one", house.cut(50, 50));
        DUE.yes("add(0, 0) ahead of all", house.add(0, 0));
        DUE.is("EDGES", house.count(1), 2500);
        DUE.is("other(50, 0, 0)", house.other(50, 0, 0), 49);
        DUE.yes("clear(51)", house.clear(51));
        DUE.yes("add(0, 0) behind clear()", house.add(0, 0));
    }

    // Promise 8: "The EDGE goes: true; false, if it is not there."
    private static void cutOnce() {
        RankHouse house = Scene.graph(3, 0, 0, 0, 1, 0, 2, 1, 0, 1, 1, 1, 2);
        for (int v = 0; v < 3; v++) {
            DUE.yes("cut(0, " + v + ")", house.cut(0, v));
            DUE.no("cut(0, " + v + ") once more", house.cut(0, v));
            DUE.is("edges(0, 0)", house.edges(0, 0), 2 - v);
            DUE.is("edges(1, 0)", house.edges(1, 0), 3);
        }
        for (int v = 2; v >= 0; v--) {
            DUE.yes("cut(1, " + v + ")", house.cut(1, v));
            DUE.no("has(1, " + v + ")", house.has(1, v));
            DUE.is("count(1)", house.count(1), v);
        }
        DUE.no("cut(2, 2)", house.cut(2, 2));
        DUE.no("cut(3, 0)", house.cut(3, 0));
        DUE.no("cut(0, 3)", house.cut(0, 3));
        DUE.no("cut(-1, 0)", house.cut(-1, 0));
        DUE.no("cut(0, -1)", house.cut(0, -1));
        DUE.no("cut(least, greatest)", house.cut(Integer.MIN_VALUE, Integer.MAX_VALUE));
    }

    private static void cutTheLastOne() {
        RankHouse house = Scene.graph(250, 249, 249);
        DUE.is("BARE NODES", house.count(2), 249);
        DUE.yes("cut(249, 249)", house.cut(249, 249));
        DUE.is("BARE NODES", house.count(2), 250);
        DUE.is("EDGES", house.count(1), 0);
        DUE.is("other(249, 0, 0)", house.other(249, 0, 0), RankHouse.NONE);
        DUE.no("cut(249, 249) once more", house.cut(249, 249));
    }

    private static void cutOneWay() {
        RankHouse house = Scene.graph(2, 0, 1, 1, 0);
        DUE.yes("cut(0, 1)", house.cut(0, 1));
        DUE.yes("has(1, 0)", house.has(1, 0));
        DUE.no("has(0, 1)", house.has(0, 1));
        DUE.no("cut(0, 1) once more", house.cut(0, 1));
    }

    // Promise 9: "Whether there is that EDGE."
    private static void hasAtTheEnds() {
        for (int n : SIZES) {
            int last = n - 1;
            RankHouse house = Scene.graph(n, last, 0, 0, last);
            DUE.yes("has(last, 0) of " + n, house.has(last, 0));
            DUE.yes("has(0, last) of " + n, house.has(0, last));
            DUE.is("has(0, 0) of " + n, house.has(0, 0) ? 1 : 0, n == 1 ? 1 : 0);
            int[] wrong = {-1, n, n + 1, 250, 251, Integer.MIN_VALUE, Integer.MAX_VALUE};
            for (int u : wrong) {
                DUE.no("has(" + u + ", 0) of " + n, house.has(u, 0));
                DUE.no("has(0, " + u + ") of " + n, house.has(0, u));
                DUE.no("has(" + u + ", " + u + ") of " + n, house.has(u, u));
            }
        }
    }

    // Promise 10: "NoSuchElementException: there is no such NODE, or another what."
    private static void edgesAtTheEnds() {
        for (int n : SIZES) {
            int last = n - 1;
            RankHouse house = Scene.graph(n, last, 0, last, last, 0, 0);
            DUE.is("edges(last, 0) of " + n, house.edges(last, 0), n == 1 ? 1 : 2);
            DUE.is("edges(last, 1) of " + n, house.edges(last, 1), 1);
            DUE.is("edges(0, 0) of " + n, house.edges(0, 0), 1);
            DUE.is("edges(0, 1) of " + n, house.edges(0, 1), n == 1 ? 1 : 2);
            int[] wrong = {-1, n, n + 1, 250, 251, Integer.MIN_VALUE, Integer.MAX_VALUE};
            for (int u : wrong) {
                DUE.noSuchElement("edges(" + u + ", 0) of " + n, () -> house.edges(u, 0));
                DUE.noSuchElement("edges(" + u + ", 1) of " + n, () -> house.edges(u, 1));
            }
            int[] others = {-1, 2, 3, Integer.MIN_VALUE, Integer.MAX_VALUE};
            for (int what : others) {
                DUE.noSuchElement("edges(0, " + what + ") of " + n, () -> house.edges(0, what));
                DUE.noSuchElement("edges(n, " + what + ") of " + n, () -> house.edges(n, what));
            }
        }
    }

    // Promise 11: "NONE without it."
    private static void otherAtTheEnds() {
        RankHouse house = Scene.graph(250, 249, 0, 249, 249, 0, 249);
        DUE.is("other(249, 0, 0)", house.other(249, 0, 0), 0);
        DUE.is("other(249, 0, 1)", house.other(249, 0, 1), 249);
        DUE.is("other(249, 0, 2)", house.other(249, 0, 2), RankHouse.NONE);
        DUE.is("other(249, 1, 0)", house.other(249, 1, 0), 0);
        DUE.is("other(249, 1, 1)", house.other(249, 1, 1), 249);
        DUE.is("other(249, 1, 2)", house.other(249, 1, 2), RankHouse.NONE);
        DUE.is("other(0, 0, 0)", house.other(0, 0, 0), 249);
        DUE.is("other(0, 0, 1): those of NODE 1 are not of NODE 0", house.other(0, 0, 1), RankHouse.NONE);
        DUE.is("other(1, 0, 0) of a BARE NODE", house.other(1, 0, 0), RankHouse.NONE);
        DUE.is("other(1, 1, 0) without EDGES to it", house.other(1, 1, 0), RankHouse.NONE);
        int[] wrong = {-1, 250, Integer.MIN_VALUE, Integer.MAX_VALUE};
        for (int i : wrong) {
            for (int what = 0; what < 2; what++) {
                DUE.is("other(" + i + ", " + what + ", 0)", house.other(i, what, 0), RankHouse.NONE);
                DUE.is("other(249, " + what + ", " + i + ")", house.other(249, what, i), RankHouse.NONE);
            }
        }
        int[] others = {-1, 2, Integer.MIN_VALUE, Integer.MAX_VALUE};
        for (int what : others) {
            DUE.is("other(249, " + what + ", 0)", house.other(249, what, 0), RankHouse.NONE);
        }
    }

    private static void otherByRisingNodes() {
        RankHouse house = Scene.graph(6, 3, 5, 3, 0, 3, 4, 3, 3, 5, 3, 0, 3, 4, 3);
        int[] ends = {0, 3, 4, 5, RankHouse.NONE};
        for (int k = 0; k < ends.length; k++) {
            DUE.is("other(3, 0, " + k + ")", house.other(3, 0, k), ends[k]);
            DUE.is("other(3, 1, " + k + ")", house.other(3, 1, k), ends[k]);
        }
    }

    // "WEIGHTS of NODES are 0 to 1000 (1 at first)"; promise 12: "false, if it is not as told".
    private static void leastAndMostWeight() {
        RankHouse house = Scene.graph(2);
        DUE.is("WHOLE at first", house.count(3), 2);
        DUE.yes("weight(0, 1000)", house.weight(0, 1000));
        DUE.is("WHOLE", house.count(3), 1001);
        DUE.yes("weight(1, 0)", house.weight(1, 0));
        DUE.is("WHOLE", house.count(3), 1000);
        int[] wrong = {-1, 1001, -1000, 1024, Integer.MIN_VALUE, Integer.MAX_VALUE};
        for (int w : wrong) {
            DUE.no("weight(0, " + w + ")", house.weight(0, w));
            DUE.no("weight(1, " + w + ")", house.weight(1, w));
            DUE.is("WHOLE", house.count(3), 1000);
        }
        house.run(1, 0);
        DUE.is("rank(0) of all the WEIGHT", house.rank(0), 1L << 32);
        DUE.is("rank(1) of WEIGHT 0", house.rank(1), 0);
    }

    private static void weightOfNoNode() {
        for (int n : SIZES) {
            RankHouse house = Scene.graph(n);
            int[] wrong = {-1, n, 250, 251, Integer.MIN_VALUE, Integer.MAX_VALUE};
            for (int u : wrong) {
                DUE.no("weight(" + u + ", 5) of " + n, house.weight(u, 5));
                DUE.no("weight(" + u + ", 0) of " + n, house.weight(u, 0));
            }
            DUE.is("WHOLE of " + n, house.count(3), n);
            DUE.yes("weight(n - 1, 5) of " + n, house.weight(n - 1, 5));
            DUE.is("WHOLE of " + n, house.count(3), n + 4);
        }
    }

    // "WHOLE is their sum (never 0)"; promise 12: "or WHOLE would be 0".
    private static void wholeNeverZero() {
        RankHouse house = Scene.graph(3);
        DUE.yes("weight(0, 0)", house.weight(0, 0));
        DUE.yes("weight(2, 0)", house.weight(2, 0));
        DUE.is("WHOLE", house.count(3), 1);
        DUE.no("weight(1, 0)", house.weight(1, 0));
        DUE.is("WHOLE", house.count(3), 1);
        DUE.yes("weight(0, 0) as it was", house.weight(0, 0));
        DUE.yes("weight(2, 1)", house.weight(2, 1));
        DUE.yes("weight(1, 0) behind it", house.weight(1, 0));
        DUE.no("weight(2, 0)", house.weight(2, 0));
        DUE.yes("weight(2, 1000)", house.weight(2, 1000));
        DUE.no("weight(2, 0)", house.weight(2, 0));
        DUE.is("WHOLE", house.count(3), 1000);
    }

    private static void wholeOfOneNode() {
        RankHouse house = new RankHouse();
        DUE.no("weight(0, 0)", house.weight(0, 0));
        DUE.is("WHOLE", house.count(3), 1);
        DUE.yes("weight(0, 1)", house.weight(0, 1));
        DUE.yes("weight(0, 1000)", house.weight(0, 1000));
        DUE.no("weight(0, 0)", house.weight(0, 0));
        DUE.is("WHOLE", house.count(3), 1000);
    }

    private static void mostWhole() {
        RankHouse house = Scene.graph(250);
        for (int u = 0; u < 250; u++) {
            DUE.yes("weight(" + u + ", 1000)", house.weight(u, 1000));
        }
        DUE.is("WHOLE", house.count(3), 250000);
        DUE.is("run(1, 0)", house.run(1, 0), 1);
        DUE.is("rank(0)", house.rank(0), (1L << 32) / 250);
        DUE.is("rank(249)", house.rank(249), (1L << 32) / 250);
    }

    private interface Asked {
        boolean of(RankHouse house);
    }

    private static void begins(String call, boolean done, Asked asked) {
        RankHouse house = Scene.graph(3, 0, 1, 1, 2);
        house.weight(2, 7);
        house.run(2, 0);
        DUE.is(call, asked.of(house) ? 1 : 0, done ? 1 : 0);
        DUE.is("STEPS behind " + call, house.look(3), done ? 0 : 2);
        DUE.is("RANKS behind " + call, house.rank(0) == (1L << 32) / house.count(0) + 1 ? 1 : 0, done ? 1 : 0);
        DUE.is("CHANGE behind " + call, house.look(1) == 1L << 33 ? 1 : 0, done ? 1 : 0);
        DUE.is("BOUND behind " + call, house.look(2) > 1L << 33 ? 1 : 0, done ? 1 : 0);
        DUE.is("run() behind " + call, house.run(1, Long.MAX_VALUE), done ? 1 : 0);
    }

    // "RANKS are at their BEGINNING, and no STEP made, behind each [..] that was done (also where all is as it was)."
    private static void doneBegins() {
        begins("clear(3)", true, house -> house.clear(3));
        begins("clear(6)", true, house -> house.clear(6));
        begins("add(2, 2)", true, house -> house.add(2, 2));
        begins("cut(0, 1)", true, house -> house.cut(0, 1));
        begins("weight(0, 0)", true, house -> house.weight(0, 0));
        begins("weight(2, 7) as it was", true, house -> house.weight(2, 7));
        begins("damping(1, 2)", true, house -> house.damping(1, 2));
        begins("damping(17, 20) as it was", true, house -> house.damping(17, 20));
        begins("read()", true, house -> Bytes.tell(house, 3, 0, 0, 0) == 4 && house.read() == 0);
        begins("read() as it was", true, house -> Bytes.tell(house, 3, 1, 2, 1, 2, 0) == 6 && house.read() == 2);
    }

    private static void refusedDoesNotBegin() {
        begins("clear(0)", false, house -> house.clear(0));
        begins("clear(251)", false, house -> house.clear(251));
        begins("add(0, 1)", false, house -> house.add(0, 1));
        begins("add(3, 0)", false, house -> house.add(3, 0));
        begins("cut(0, 0)", false, house -> house.cut(0, 0));
        begins("weight(2, 1001)", false, house -> house.weight(2, 1001));
        begins("weight(3, 7)", false, house -> house.weight(3, 7));
        begins("damping(20, 20)", false, house -> house.damping(20, 20));
        begins("read() with a FAULT", false, house -> Bytes.tell(house, 3, 0, 0, 3) == 4 && house.read() >= 0);
        begins("end(0)", false, house -> !house.end(0));
        begins("write()", false, house -> house.write() == 0);
        begins("feed()", false, house -> house.feed(0, 0, 0, 0, 0) == 0);
    }
}
