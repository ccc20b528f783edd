/** Promises 1, 6 to 12 and 23: the GRAPH, its EDGES and WEIGHTS, and what is counted. */
public final class GraphTest {
    private static final Due DUE = new Due("GraphTest");

    public static void main(String[] args) {
        newObject();
        clear();
        addAndCut();
        edgesAndOther();
        weight();
        count();
        DUE.end();
    }

    private static void newObject() {
        RankHouse house = new RankHouse();
        int[] counts = {1, 0, 1, 1, 0, 0, 17, 20, -1};
        for (int what = 0; what < counts.length; what++) {
            DUE.is("count(" + what + ") of a new one", house.count(what), counts[what]);
        }
        DUE.no("has(0, 0)", house.has(0, 0));
        DUE.is("edges(0, 0)", house.edges(0, 0), 0);
        DUE.is("edges(0, 1)", house.edges(0, 1), 0);
        DUE.is("fault()", house.fault(), 0);
        DUE.is("rank(0)", house.rank(0), 1L << 32);
        DUE.is("top(0)", house.top(0), 0);
        DUE.is("look(3)", house.look(3), 0);
        RankHouse another = new RankHouse();
        another.clear(3);
        another.damping(1, 2);
        DUE.is("another object is another", house.count(0), 1);
        DUE.is("another object is another", house.count(7), 20);
    }

    private static void clear() {
        RankHouse house = new RankHouse();
        DUE.no("clear(0)", house.clear(0));
        DUE.no("clear(-1)", house.clear(-1));
        DUE.no("clear(251)", house.clear(251));
        DUE.no("clear of the least", house.clear(Integer.MIN_VALUE));
        DUE.no("clear of the greatest", house.clear(Integer.MAX_VALUE));
        DUE.is("NODES", house.count(0), 1);
        DUE.yes("clear(250)", house.clear(250));
        DUE.is("NODES", house.count(0), 250);
        DUE.is("WHOLE", house.count(3), 250);
        DUE.yes("add(249, 249)", house.add(249, 249));
        DUE.yes("add(0, 249)", house.add(0, 249));
        house.weight(3, 7);
        house.damping(1, 3);
        house.feed(1, 2, 3, 4, 5);
        house.write();
        house.run(1, 0);
        DUE.no("clear(251)", house.clear(251));
        DUE.is("EDGES stay", house.count(1), 2);
        DUE.is("STEPS stay", house.look(3), 1);
        int out = house.count(5);
        DUE.yes("clear(4)", house.clear(4));
        DUE.is("NODES", house.count(0), 4);
        DUE.is("EDGES", house.count(1), 0);
        DUE.is("BARE", house.count(2), 4);
        DUE.is("WHOLE", house.count(3), 4);
        DUE.is("tape stays", house.count(4), 20);
        DUE.is("OUT stays", house.count(5), out);
        DUE.is("p stays", house.count(6), 1);
        DUE.is("STEPS", house.look(3), 0);
        DUE.yes("clear(1)", house.clear(1));
        DUE.yes("clear(250)", house.clear(250));
        DUE.no("has(249, 249)", house.has(249, 249));
        DUE.is("edges(0, 0)", house.edges(0, 0), 0);
        DUE.is("edges(249, 1)", house.edges(249, 1), 0);
    }

    private static void addAndCut() {
        RankHouse house = new RankHouse();
        house.clear(4);
        int[][] wrong = {{-1, 0}, {0, -1}, {4, 0}, {0, 4}, {Integer.MIN_VALUE, 0}, {0, Integer.MAX_VALUE}};
        house.run(1, 0);
        for (int[] edge : wrong) {
            DUE.no("add without a NODE", house.add(edge[0], edge[1]));
            DUE.no("cut without a NODE", house.cut(edge[0], edge[1]));
            DUE.no("has without a NODE", house.has(edge[0], edge[1]));
        }
        DUE.is("STEPS stay", house.look(3), 1);
        DUE.yes("add(2, 1)", house.add(2, 1));
        DUE.is("no STEP made", house.look(3), 0);
        DUE.no("has(1, 2)", house.has(1, 2));
        DUE.yes("has(2, 1)", house.has(2, 1));
        house.run(1, 0);
        DUE.no("add(2, 1) again", house.add(2, 1));
        DUE.no("cut(1, 2)", house.cut(1, 2));
        DUE.is("STEPS stay", house.look(3), 1);
        DUE.yes("add(2, 3)", house.add(2, 3));
        DUE.yes("add(2, 2)", house.add(2, 2));
        DUE.yes("add(0, 3)", house.add(0, 3));
        DUE.yes("add(3, 0)", house.add(3, 0));
        DUE.is("EDGES", house.count(1), 5);
        house.run(1, 0);
        DUE.yes("cut(2, 2)", house.cut(2, 2));
        DUE.is("no STEP made", house.look(3), 0);
        DUE.no("cut(2, 2) again", house.cut(2, 2));
        DUE.is("EDGES", house.count(1), 4);
        DUE.no("has(2, 2)", house.has(2, 2));
        DUE.yes("has(2, 1)", house.has(2, 1));
        DUE.yes("has(2, 3)", house.has(2, 3));
        DUE.yes("has(0, 3)", house.has(0, 3));
        DUE.yes("has(3, 0)", house.has(3, 0));
    }

    private static void edgesAndOther() {
        RankHouse house = new RankHouse();
        house.clear(6);
        int[][] told = {{3, 5}, {3, 0}, {3, 3}, {5, 3}, {1, 3}, {0, 1}};
        for (int[] edge : told) {
            house.add(edge[0], edge[1]);
        }
        DUE.is("edges(3, 0)", house.edges(3, 0), 3);
        DUE.is("edges(3, 1)", house.edges(3, 1), 3);
        DUE.is("edges(0, 0)", house.edges(0, 0), 1);
        DUE.is("edges(0, 1)", house.edges(0, 1), 1);
        DUE.is("edges(2, 0)", house.edges(2, 0), 0);
        DUE.is("edges(2, 1)", house.edges(2, 1), 0);
        int[] from = {0, 3, 5, -1};
        int[] to = {1, 3, 5, -1};
        for (int k = 0; k < 4; k++) {
            DUE.is("other(3, 0, " + k + ")", house.other(3, 0, k), from[k]);
            DUE.is("other(3, 1, " + k + ")", house.other(3, 1, k), to[k]);
        }
        DUE.is("other(3, 0, -1)", house.other(3, 0, -1), -1);
        DUE.is("other(3, 1, -1)", house.other(3, 1, -1), -1);
        DUE.is("other(3, 0, greatest)", house.other(3, 0, Integer.MAX_VALUE), -1);
        DUE.is("other(3, 0, least)", house.other(3, 0, Integer.MIN_VALUE), -1);
        DUE.is("other(3, 2, 0)", house.other(3, 2, 0), -1);
        DUE.is("other(3, -1, 0)", house.other(3, -1, 0), -1);
        DUE.is("other(6, 0, 0)", house.other(6, 0, 0), -1);
        DUE.is("other(-1, 1, 0)", house.other(-1, 1, 0), -1);
        DUE.is("other(2, 0, 0)", house.other(2, 0, 0), -1);
        DUE.noSuchElement("edges(6, 0)", () -> house.edges(6, 0));
        DUE.noSuchElement("edges(-1, 1)", () -> house.edges(-1, 1));
        DUE.noSuchElement("edges(0, 2)", () -> house.edges(0, 2));
        DUE.noSuchElement("edges(0, -1)", () -> house.edges(0, -1));
        DUE.noSuchElement("edges of the least", () -> house.edges(Integer.MIN_VALUE, 0));
        DUE.noSuchElement("edges of the greatest", () -> house.edges(Integer.MAX_VALUE, 0));
        house.cut(3, 3);
        DUE.is("edges(3, 0)", house.edges(3, 0), 2);
        DUE.is("edges(3, 1)", house.edges(3, 1), 2);
        DUE.is("other(3, 0, 1)", house.other(3, 0, 1), 5);
        DUE.is("other(5, 1, 0)", house.other(5, 1, 0), 3);
    }

    private static void weight() {
        RankHouse house = new RankHouse();
        DUE.no("weight(0, 0) of the one NODE", house.weight(0, 0));
        DUE.yes("weight(0, 1000)", house.weight(0, 1000));
        DUE.is("WHOLE", house.count(3), 1000);
        house.clear(3);
        DUE.is("WHOLE behind clear(3)", house.count(3), 3);
        DUE.yes("weight(1, 7)", house.weight(1, 7));
        DUE.is("WHOLE", house.count(3), 9);
        house.run(1, 0);
        DUE.no("weight(1, 1001)", house.weight(1, 1001));
        DUE.no("weight(1, -1)", house.weight(1, -1));
        DUE.no("weight(1, least)", house.weight(1, Integer.MIN_VALUE));
        DUE.no("weight(1, greatest)", house.weight(1, Integer.MAX_VALUE));
        DUE.no("weight(3, 1)", house.weight(3, 1));
        DUE.no("weight(-1, 1)", house.weight(-1, 1));
        DUE.is("WHOLE", house.count(3), 9);
        DUE.is("STEPS stay", house.look(3), 1);
        DUE.yes("weight(1, 7) as it was", house.weight(1, 7));
        DUE.is("no STEP made", house.look(3), 0);
        DUE.yes("weight(0, 0)", house.weight(0, 0));
        DUE.yes("weight(2, 0)", house.weight(2, 0));
        DUE.yes("weight(2, 0) as it was", house.weight(2, 0));
        house.run(1, 0);
        DUE.no("weight(1, 0), WHOLE would be 0", house.weight(1, 0));
        DUE.is("STEPS stay", house.look(3), 1);
        DUE.is("WHOLE", house.count(3), 7);
        DUE.yes("weight(1, 1)", house.weight(1, 1));
        DUE.is("WHOLE", house.count(3), 1);
    }

    private static void count() {
        RankHouse house = new RankHouse();
        house.clear(5);
        house.add(0, 1);
        house.add(0, 2);
        house.add(3, 3);
        house.weight(4, 10);
        house.feed(0, 0, 0, 0, 0);
        house.end(3);
        house.damping(5, 11);
        int[] counts = {5, 3, 3, 14, 3, 0, 5, 11};
        for (int what = 0; what < counts.length; what++) {
            DUE.is("count(" + what + ")", house.count(what), counts[what]);
        }
        DUE.is("write()", house.write(), 9);
        DUE.is("count(5)", house.count(5), 9);
        int[] others = {-1, 8, Integer.MIN_VALUE, Integer.MAX_VALUE};
        for (int what : others) {
            DUE.is("count(" + what + ")", house.count(what), -1);
        }
    }
}
