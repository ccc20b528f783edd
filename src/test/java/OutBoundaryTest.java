/** The boundary cases of promises 21 to 23: OUT, its bytes, and what is counted. */
public final class OutBoundaryTest {
    private static final Due DUE = new Due("OutBoundaryTest");

    public static void main(String[] args) {
        leastGraph();
        nodesOfTwoBytes();
        edgesOfTwoBytes();
        firstAbove();
        firstBelow();
        furtherOnes();
        mostNodes();
        outIsPutInPlace();
        writeLeavesTheRest();
        writtenIsRead();
        octetAtTheEnds();
        octetAheadOfAnyWrite();
        octetStays();
        countAtTheEnds();
        countOfTheTape();
        DUE.end();
    }

    private static void out(String graph, RankHouse house, int... want) {
        int length = house.write();
        DUE.is("write() of " + graph, length, want.length);
        DUE.is("count(5) of " + graph, house.count(5), want.length);
        for (int k = 0; k < want.length && k < length; k++) {
            DUE.is("octet(" + k + ") of " + graph, house.octet(k), want[k]);
        }
    }

    private static void leastGraph() {
        RankHouse house = new RankHouse();
        out("a new one", house, 1, 0);
        house.add(0, 0);
        out("one EDGE", house, 1, 1, 0);
        house.cut(0, 0);
        out("none again", house, 1, 0);
    }

    // "All as UNSIGNED: [..] 128 more in all but the last one, as few bytes as can be."
    private static void nodesOfTwoBytes() {
        int[] sizes = {2, 126, 127};
        for (int n : sizes) {
            out(n + " NODES", Scene.graph(n), Bytes.joined(new int[] {n}, new int[n]));
        }
        out("128 NODES", Scene.graph(128), Bytes.joined(new int[] {128, 1}, new int[128]));
        out("129 NODES", Scene.graph(129), Bytes.joined(new int[] {129, 1}, new int[129]));
        out("249 NODES", Scene.graph(249), Bytes.joined(new int[] {249, 1}, new int[249]));
        out("250 NODES", Scene.graph(250), Bytes.joined(new int[] {250, 1}, new int[250]));
    }

    private static void edgesOfTwoBytes() {
        RankHouse house = Scene.graph(130);
        for (int v = 0; v < 127; v++) {
            house.add(129, v);
        }
        house.write();
        // n in two bytes, 129 BARE NODES, then 127 in one byte, 2 * 129 - 1 in two, and gaps.
        DUE.is("count(5) of 127 EDGES", house.count(5), 2 + 129 + 1 + 2 + 126);
        DUE.is("octet(131)", house.octet(131), 127);
        DUE.is("octet(132)", house.octet(132), 128 + 257 % 128);
        DUE.is("octet(133)", house.octet(133), 2);
        house.add(129, 127);
        house.write();
        DUE.is("count(5) of 128 EDGES", house.count(5), 2 + 129 + 2 + 2 + 127);
        DUE.is("octet(131)", house.octet(131), 128);
        DUE.is("octet(132)", house.octet(132), 1);
        house.add(129, 128);
        house.add(129, 129);
        house.write();
        DUE.is("count(5) of all EDGES", house.count(5), 2 + 129 + 2 + 2 + 129);
        DUE.is("octet(131)", house.octet(131), 130);
        DUE.is("octet(132)", house.octet(132), 1);
    }

    // "the first of the NODES v to which they go (in rising order) as 2 (v - u)".
    private static void firstAbove() {
        out("0 to 0", Scene.graph(3, 0, 0), 3, 1, 0, 0, 0);
        out("1 to 1", Scene.graph(3, 1, 1), 3, 0, 1, 0, 0);
        out("0 to 1", Scene.graph(3, 0, 1), 3, 1, 2, 0, 0);
        out("0 to 2", Scene.graph(3, 0, 2), 3, 1, 4, 0, 0);
        out("2 to 2", Scene.graph(3, 2, 2), 3, 0, 0, 1, 0);
        out("0 to 63 of 64", Scene.graph(64, 0, 63), Bytes.joined(new int[] {64, 1, 126}, new int[63]));
        out("0 to 64 of 65", Scene.graph(65, 0, 64), Bytes.joined(new int[] {65, 1, 128, 1}, new int[64]));
        out("0 to 249", Scene.graph(250, 0, 249), Bytes.joined(new int[] {250, 1, 1, 128 + 114, 3}, new int[249]));
    }

    // "or 2 (u - v) - 1 if v is below u".
    private static void firstBelow() {
        out("1 to 0", Scene.graph(3, 1, 0), 3, 0, 1, 1, 0);
        out("2 to 1", Scene.graph(3, 2, 1), 3, 0, 0, 1, 1);
        out("2 to 0", Scene.graph(3, 2, 0), 3, 0, 0, 1, 3);
        out("64 to 0 of 65", Scene.graph(65, 64, 0),
                Bytes.joined(Bytes.joined(new int[] {65}, new int[64]), 1, 127));
        out("65 to 0 of 66", Scene.graph(66, 65, 0),
                Bytes.joined(Bytes.joined(new int[] {66}, new int[65]), 1, 129, 1));
        out("249 to 0", Scene.graph(250, 249, 0),
                Bytes.joined(Bytes.joined(new int[] {250, 1}, new int[249]), 1, 128 + 113, 3));
    }

    // "each further one as how far it is above the one ahead of it, less 1."
    private static void furtherOnes() {
        out("1 to 0, 1 and 2", Scene.graph(3, 1, 2, 1, 1, 1, 0), 3, 0, 3, 1, 0, 0, 0);
        out("1 to 0 and 2", Scene.graph(3, 1, 2, 1, 0), 3, 0, 2, 1, 1, 0);
        out("0 to 0 and 128 of 129", Scene.graph(129, 0, 128, 0, 0),
                Bytes.joined(new int[] {129, 1, 2, 0, 127}, new int[128]));
        out("0 to 0 and 129 of 130", Scene.graph(130, 0, 129, 0, 0),
                Bytes.joined(new int[] {130, 1, 2, 0, 128, 1}, new int[129]));
        out("0 to 0 and 249", Scene.graph(250, 0, 249, 0, 0),
                Bytes.joined(new int[] {250, 1, 2, 0, 128 + 120, 1}, new int[249]));
    }

    private static void mostNodes() {
        RankHouse house = Scene.graph(250);
        for (int v = 0; v < 250; v++) {
            house.add(0, v);
        }
        int[] want = Bytes.joined(new int[] {250, 1, 250, 1}, new int[250 + 249]);
        DUE.is("write()", house.write(), want.length);
        for (int k = 0; k < 200; k++) {
            DUE.is("octet(" + k + ")", house.octet(k), want[k]);
        }
        DUE.noSuchElement("octet behind OUT", () -> house.octet(want.length));
    }

    // Promise 21: "The GRAPH is written as BYTES to OUT": those of an earlier write() are gone.
    private static void outIsPutInPlace() {
        RankHouse house = Scene.graph(9, 8, 0, 8, 8);
        house.write();
        house.clear(1);
        out("one NODE behind nine", house, 1, 0);
        DUE.noSuchElement("octet(2)", () -> house.octet(2));
        out("one NODE once more", house, 1, 0);
        house.clear(4);
        out("four NODES behind one", house, 4, 0, 0, 0, 0);
    }

    private static void writeLeavesTheRest() {
        RankHouse one = Scene.house();
        RankHouse twin = Scene.house();
        DUE.is("write()", one.write(), 10);
        for (int what = 0; what < 5; what++) {
            DUE.is("look(" + what + ") stays", one.look(what), twin.look(what));
        }
        for (int u = 0; u < 4; u++) {
            DUE.is("rank(" + u + ") stays", one.rank(u), twin.rank(u));
        }
        DUE.is("fault() stays", one.fault(), 3);
        twin.write();
        DUE.same("write()", Scene.all(one), Scene.all(twin));
    }

    private static void writtenIsRead() {
        RankHouse[] houses = {new RankHouse(), Scene.graph(1, 0, 0), Scene.graph(127, 126, 0, 0, 126),
            Scene.graph(128, 127, 0, 0, 127), Scene.graph(250, 0, 0, 0, 129, 0, 249, 249, 0, 249, 249),
            Scene.graph(3, 0, 0, 0, 1, 0, 2, 1, 0, 1, 1, 1, 2, 2, 0)};
        for (RankHouse house : houses) {
            int[] bytes = new int[house.write()];
            for (int k = 0; k < bytes.length; k++) {
                bytes[k] = house.octet(k);
            }
            int edges = house.count(1);
            house.clear(77);
            Bytes.tell(house, bytes);
            DUE.is("read() of what was written", house.read(), edges);
            DUE.is("write() of what was read", house.write(), bytes.length);
        }
    }

    // Promise 22: "Byte k of OUT (0 .. 255). NoSuchElementException: there is none such."
    private static void octetAtTheEnds() {
        RankHouse house = Scene.graph(250, 249, 3);
        int length = house.write();
        DUE.is("octet(0)", house.octet(0), 250);
        DUE.is("octet of the last", house.octet(length - 1), (2 * 246 - 1) / 128);
        int[] wrong = {-1, length, length + 1, 4000, Integer.MIN_VALUE, Integer.MAX_VALUE};
        for (int k : wrong) {
            DUE.noSuchElement("octet(" + k + ")", () -> house.octet(k));
        }
    }

    private static void octetAheadOfAnyWrite() {
        RankHouse house = Scene.graph(3, 0, 1);
        DUE.is("count(5)", house.count(5), 0);
        int[] wrong = {0, -1, 1, Integer.MIN_VALUE, Integer.MAX_VALUE};
        for (int k : wrong) {
            DUE.noSuchElement("octet(" + k + ")", () -> house.octet(k));
        }
        house.feed(1, 2, 3, 4, 5);
        DUE.noSuchElement("octet(0): the tape is not OUT", () -> house.octet(0));
    }

    private static void octetStays() {
        RankHouse house = Scene.graph(2, 0, 1);
        house.write();
        house.add(1, 1);
        house.cut(0, 1);
        house.weight(0, 7);
        house.feed(-1, -1, -1, -1, -1);
        house.read();
        house.run(3, 0);
        house.again();
        house.clear(5);
        int[] want = {2, 1, 2, 0};
        DUE.is("count(5) stays", house.count(5), want.length);
        for (int k = 0; k < want.length; k++) {
            DUE.is("octet(" + k + ") stays", house.octet(k), want[k]);
        }
    }

    // Promise 23: "NONE for another what."
    private static void countAtTheEnds() {
        RankHouse house = Scene.house();
        int[] want = {4, 5, 1, 1002, 7, 9, 3, 7};
        for (int what = 0; what < want.length; what++) {
            DUE.is("count(" + what + ")", house.count(what), want[what]);
        }
        int[] others = {-1, 8, 9, Integer.MIN_VALUE, Integer.MAX_VALUE};
        for (int what : others) {
            DUE.is("count(" + what + ")", house.count(what), RankHouse.NONE);
        }
    }

    private static void countOfTheTape() {
        RankHouse house = new RankHouse();
        DUE.is("count(4) of none", house.count(4), 0);
        house.feed(0, 0, 0, 0, 0);
        DUE.is("count(4)", house.count(4), 20);
        house.end(1);
        DUE.is("count(4)", house.count(4), 1);
        house.clear(2);
        house.write();
        DUE.is("count(4): OUT is not the tape", house.count(4), 1);
        DUE.is("count(5)", house.count(5), 3);
        house.read();
        DUE.is("count(4) behind read()", house.count(4), 0);
        DUE.is("count(5) behind read()", house.count(5), 3);
    }
}
