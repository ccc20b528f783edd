import java.util.Arrays;

/** The boundary cases of promises 1 to 5: a new object, the tape, its BYTES and their FAULTS. */
public final class TapeBoundaryTest {
    private static final Due DUE = new Due("TapeBoundaryTest");
    private static final int ENDS = 1;
    private static final int UNSIGNED = 2;
    private static final int GRAPH = 3;
    private static final int BEHIND = 4;

    // What leads to each place at which an UNSIGNED is told: n, how many EDGES, the first, a further one.
    private static final int[][] AHEAD = {{}, {2}, {2, 1}, {2, 2, 0}};

    public static void main(String[] args) {
        newObject();
        tapeOf2000();
        highestFirst();
        endKeepsTheFirst();
        feedBehindAnEnd();
        readEmptiesTheTape();
        readSetsWeights();
        readOfTheLikeGraph();
        faultOfTheLatestRead();
        everyEndWithin();
        longerThanNeedBe();
        above65535();
        endsWithinAnUnsigned();
        leastAndMostNodes();
        mostEdgesOfANode();
        firstNodeInRange();
        furtherNodeInRange();
        twoBytesWhereOneEnds();
        byteBehindTheEnd();
        firstAlongThem();
        mostEdgesOfATape();
        DUE.end();
    }

    private static void good(int edges, int... bytes) {
        RankHouse house = new RankHouse();
        Bytes.tell(house, bytes);
        DUE.is("read() of " + Arrays.toString(bytes), house.read(), edges);
        DUE.is("fault() of " + Arrays.toString(bytes), house.fault(), 0);
    }

    private static void fault(int kind, int place, int... bytes) {
        RankHouse house = new RankHouse();
        Bytes.tell(house, bytes);
        DUE.is("read() of " + Arrays.toString(bytes), house.read(), -1 - place);
        DUE.is("fault() of " + Arrays.toString(bytes), house.fault(), kind);
        DUE.is("NODES stay", house.count(0), 1);
        DUE.is("EDGES stay", house.count(1), 0);
    }

    // Promise 1: "A GRAPH of one NODE without EDGES; an empty tape."
    private static void newObject() {
        RankHouse house = new RankHouse();
        DUE.same("a new object", Scene.seen(house), "count 1 0 1 1 0 0 17 20"
                + " look 4294967296 8589934592 8589934606 0 4294967296 fault 0 OUT"
                + " | 0 rank 4294967296 top 0 from to");
        DUE.no("end(1)", house.end(1));
        DUE.is("read() of the empty tape", house.read(), -1);
        DUE.is("fault()", house.fault(), ENDS);
        DUE.is("NODES", house.count(0), 1);
    }

    // Promise 2: "how many it has; NONE, and none come, if it would have more than 2000."
    private static void tapeOf2000() {
        RankHouse house = new RankHouse();
        for (int i = 1; i <= 100; i++) {
            DUE.is("feed " + i, house.feed(0, 0, 0, 0, 0), 20 * i);
        }
        DUE.is("feed 101", house.feed(0, 0, 0, 0, 0), RankHouse.NONE);
        DUE.is("count(4)", house.count(4), 2000);
        DUE.yes("end(1981)", house.end(1981));
        DUE.is("feed to 2001", house.feed(0, 0, 0, 0, 0), RankHouse.NONE);
        DUE.is("count(4)", house.count(4), 1981);
        DUE.yes("end(1980)", house.end(1980));
        DUE.is("feed to 2000", house.feed(0, 0, 0, 0, 0), 2000);
    }

    // Promise 2: "of each number the highest first", also of numbers below 0.
    private static void highestFirst() {
        for (int place = 0; place < 20; place++) {
            // An UNSIGNED that is longer than need be, begun at each byte of a feed in turn.
            int[] bytes = new int[20];
            bytes[place] = 0x80;
            RankHouse house = new RankHouse();
            Bytes.tell(house, Bytes.joined(Bytes.unsigned(250), new int[18]));
            house.feed(Bytes.word(bytes, 0), Bytes.word(bytes, 4), Bytes.word(bytes, 8), Bytes.word(bytes, 12),
                    Bytes.word(bytes, 16));
            house.feed(0, 0, 0, 0, 0);
            DUE.is("read() with a FAULT at " + (20 + place), house.read(), -1 - (20 + place));
            DUE.is("fault()", house.fault(), UNSIGNED);
        }
        RankHouse house = new RankHouse();
        DUE.is("feed of the least", house.feed(0x01000000, Integer.MIN_VALUE, -1, Integer.MAX_VALUE, 1), 20);
        DUE.is("read()", house.read(), -3);
        DUE.is("fault()", house.fault(), BEHIND);
    }

    // Promise 3: "The tape has its first n bytes alone: true; false, if it has not so many, or n is below 0."
    private static void endKeepsTheFirst() {
        RankHouse house = new RankHouse();
        DUE.yes("end(0) of an empty tape", house.end(0));
        DUE.no("end(1) of an empty tape", house.end(1));
        DUE.no("end(-1) of an empty tape", house.end(-1));
        house.feed(0x02010001, 0, 0, 0, 0);
        DUE.no("end(21)", house.end(21));
        DUE.yes("end(20)", house.end(20));
        DUE.is("count(4)", house.count(4), 20);
        DUE.yes("end(5)", house.end(5));
        DUE.no("end(6)", house.end(6));
        DUE.is("count(4)", house.count(4), 5);
        DUE.is("read()", house.read(), 2);
        DUE.no("end(1) behind read()", house.end(1));
        house.feed(0x01000000, 0, 0, 0, 0);
        DUE.yes("end(0)", house.end(0));
        DUE.is("count(4)", house.count(4), 0);
        DUE.is("read()", house.read(), -1);
    }

    private static void feedBehindAnEnd() {
        RankHouse house = new RankHouse();
        house.feed(0x02FFFFFF, -1, -1, -1, -1);
        DUE.yes("end(1)", house.end(1));
        DUE.is("feed behind it", house.feed(0x01000101, 0, 0, 0, 0), 21);
        DUE.is("read(): zeros behind", house.read(), -6);
        house.feed(0x02FFFFFF, -1, -1, -1, -1);
        house.end(1);
        house.feed(0x01000101, 0, 0, 0, 0);
        house.end(5);
        DUE.is("read()", house.read(), 2);
        DUE.yes("has(0, 0)", house.has(0, 0));
        DUE.yes("has(1, 0)", house.has(1, 0));
    }

    // Promise 4: "The tape (empty then)".
    private static void readEmptiesTheTape() {
        RankHouse house = new RankHouse();
        Bytes.tell(house, 1, 0);
        DUE.is("read()", house.read(), 0);
        DUE.is("count(4)", house.count(4), 0);
        DUE.is("feed behind read()", house.feed(0, 0, 0, 0, 0), 20);
        DUE.is("read() with a FAULT", house.read(), -1);
        DUE.is("count(4)", house.count(4), 0);
        DUE.is("read() of the empty tape", house.read(), -1);
        DUE.is("fault()", house.fault(), ENDS);
    }

    // Promise 4: "BYTES of the GRAPH (all WEIGHTS 1)".
    private static void readSetsWeights() {
        RankHouse house = new RankHouse();
        house.clear(3);
        house.weight(0, 0);
        house.weight(2, 1000);
        Bytes.tell(house, 4, 0, 0, 0, 0);
        DUE.is("read()", house.read(), 0);
        DUE.is("WHOLE", house.count(3), 4);
        house.run(1, 0);
        for (int u = 0; u < 4; u++) {
            DUE.is("rank(" + u + ")", house.rank(u), 1L << 30);
        }
    }

    private static void readOfTheLikeGraph() {
        RankHouse house = new RankHouse();
        Bytes.tell(house, 2, 1, 2, 0);
        house.read();
        house.damping(1, 2);
        house.run(3, 0);
        Bytes.tell(house, 2, 1, 2, 0);
        DUE.is("read() of the like GRAPH", house.read(), 1);
        DUE.is("no STEP made", house.look(3), 0);
        DUE.is("RANKS at their BEGINNING", house.rank(1), 1L << 31);
        DUE.is("DAMPING stays", house.count(7), 2);
    }

    // Promise 5: "The kind of the FAULT of the latest read(); 0 without one and ahead of any."
    private static void faultOfTheLatestRead() {
        RankHouse house = new RankHouse();
        DUE.is("fault() ahead of any", house.fault(), 0);
        int[][] told = {{}, {0x80, 0}, {0}, {1, 0, 0}, {1, 0}, {1, 0, 9}, {1, 1, 0}};
        int[] kinds = {ENDS, UNSIGNED, GRAPH, BEHIND, 0, BEHIND, 0};
        for (int i = 0; i < told.length; i++) {
            Bytes.tell(house, told[i]);
            DUE.is("fault() ahead of read()", house.fault(), i == 0 ? 0 : kinds[i - 1]);
            house.read();
            DUE.is("fault()", house.fault(), kinds[i]);
            house.clear(2);
            house.add(0, 1);
            house.write();
            DUE.is("fault() behind other calls", house.fault(), kinds[i]);
        }
    }

    // FAULT 1: "they end within (at how many there are)".
    private static void everyEndWithin() {
        int[][] told = {{1, 0}, {1, 1, 0}, {3, 2, 2, 0, 0, 3, 3, 0, 0}, Bytes.full(9, 81),
            Bytes.joined(Bytes.unsigned(200), Bytes.joined(new int[199], 2, 0x8D, 0x03, 0xC5, 0x01)),
            Bytes.joined(Bytes.unsigned(250), new int[250])};
        for (int[] bytes : told) {
            for (int length = 0; length < bytes.length; length++) {
                fault(ENDS, length, Arrays.copyOf(bytes, length));
            }
            RankHouse house = new RankHouse();
            Bytes.tell(house, bytes);
            DUE.yes("read() of all of them", house.read() >= 0);
        }
    }

    // FAULT 2: "an UNSIGNED that is longer than need be [..] (at its first byte)".
    private static void longerThanNeedBe() {
        int[][] told = {{0x80, 0}, {0x81, 0}, {0xFF, 0}, {0x80, 0x80, 0}, {0x80, 0x81, 0}, {0xFF, 0xFF, 0},
            {0x80, 0x80, 0x80, 0}, {0x81, 0x80, 0x80, 0}, {0xFF, 0xFF, 0x83, 0}, {0x80, 0x80, 0x80, 0x80, 0}};
        for (int[] ahead : AHEAD) {
            for (int[] bytes : told) {
                fault(UNSIGNED, ahead.length, Bytes.joined(ahead, bytes));
                fault(UNSIGNED, ahead.length, Bytes.joined(Bytes.joined(ahead, bytes), 0, 0, 0, 0));
            }
        }
    }

    // FAULT 2: "or above 65535 (at its first byte)"; what is not above it is no NODE, or too many EDGES.
    private static void above65535() {
        int[] most = {251, 16383, 16384, 65534, 65535};
        int[] above = {65536, 65537, 1 << 17, (1 << 21) - 1, 1 << 21, 1 << 28, Integer.MAX_VALUE};
        for (int[] ahead : AHEAD) {
            for (int number : most) {
                fault(GRAPH, ahead.length, Bytes.joined(ahead, Bytes.unsigned(number)));
            }
            for (int number : above) {
                fault(UNSIGNED, ahead.length, Bytes.joined(ahead, Bytes.unsigned(number)));
            }
        }
    }

    private static void endsWithinAnUnsigned() {
        int[][] open = {{0x80}, {0xFF}, {0x80, 0x80}, {0xFF, 0xFF}, {0x80, 0xFF}};
        for (int[] ahead : AHEAD) {
            for (int[] bytes : open) {
                fault(ENDS, ahead.length + bytes.length, Bytes.joined(ahead, bytes));
            }
            // A third byte that goes on makes it wrong whatever comes, at a place ahead of the end.
            fault(UNSIGNED, ahead.length, Bytes.joined(ahead, 0x80, 0x80, 0x80));
            fault(UNSIGNED, ahead.length, Bytes.joined(ahead, 0xFF, 0xFF, 0xFF));
            fault(UNSIGNED, ahead.length, Bytes.joined(ahead, 0xFF, 0xFF, 0xFF, 0xFF));
        }
    }

    // FAULT 3: "n is 0 or above 250".
    private static void leastAndMostNodes() {
        fault(GRAPH, 0, 0);
        fault(GRAPH, 0, 0, 0, 0);
        good(0, 1, 0);
        int[] most = {127, 128, 249, 250};
        for (int n : most) {
            good(0, Bytes.joined(Bytes.unsigned(n), new int[n]));
        }
        fault(GRAPH, 0, Bytes.joined(Bytes.unsigned(251), new int[251]));
        fault(GRAPH, 0, Bytes.unsigned(251));
        fault(GRAPH, 0, Bytes.unsigned(256));
        fault(GRAPH, 0, Bytes.unsigned(257));
    }

    // FAULT 3: "more EDGES from a NODE than n".
    private static void mostEdgesOfANode() {
        good(1, 1, 1, 0);
        fault(GRAPH, 1, 1, 2, 0, 0);
        good(4, 2, 2, 0, 0, 2, 1, 0);
        fault(GRAPH, 1, 2, 3, 0, 0, 0, 0);
        fault(GRAPH, 4, 2, 2, 0, 0, 3, 1, 0, 0);
        fault(GRAPH, 1, 2, 3);
        int[] head = Bytes.joined(Bytes.unsigned(250), Bytes.unsigned(250));
        good(250, Bytes.joined(Bytes.joined(head, new int[250]), new int[249]));
        head = Bytes.joined(Bytes.unsigned(250), Bytes.unsigned(251));
        fault(GRAPH, 2, Bytes.joined(head, new int[500]));
    }

    // FAULT 3: "a NODE to which one goes that there is not (at its first byte)", of the first EDGE of each NODE.
    private static void firstNodeInRange() {
        int[] sizes = {1, 2, 3, 64, 65, 66, 250};
        for (int n : sizes) {
            int[] places = {0, n / 2, n - 1};
            for (int u : places) {
                int[] ahead = Bytes.joined(Bytes.joined(Bytes.unsigned(n), new int[u]), 1);
                int[] behind = new int[n - 1 - u];
                int last = 2 * (n - 1 - u);
                good(1, told(ahead, 0, behind));
                good(1, told(ahead, last, behind));
                fault(GRAPH, ahead.length, told(ahead, last + 2, behind));
                fault(GRAPH, ahead.length, Bytes.joined(ahead, Bytes.unsigned(last + 2)));
                if (u > 0) {
                    good(1, told(ahead, 2 * u - 1, behind));
                }
                fault(GRAPH, ahead.length, told(ahead, 2 * u + 1, behind));
                fault(GRAPH, ahead.length, Bytes.joined(ahead, Bytes.unsigned(2 * u + 1)));
            }
        }
    }

    private static int[] told(int[] ahead, int number, int[] behind) {
        return Bytes.joined(Bytes.joined(ahead, Bytes.unsigned(number)), behind);
    }

    private static void furtherNodeInRange() {
        good(2, 3, 2, 0, 0, 0, 0);
        good(2, 3, 2, 0, 1, 0, 0);
        fault(GRAPH, 3, 3, 2, 0, 2, 0, 0);
        good(2, 3, 2, 2, 0, 0, 0);
        fault(GRAPH, 3, 3, 2, 2, 1, 0, 0);
        fault(GRAPH, 3, 3, 2, 4, 0, 0, 0);
        fault(GRAPH, 4, 3, 3, 0, 0, 1, 0, 0);
        good(3, 3, 0, 0, 3, 3, 0, 0);
        fault(GRAPH, 6, 3, 0, 0, 3, 3, 0, 1);
        fault(GRAPH, 5, 3, 0, 0, 2, 0, 0);
        int[] ahead = Bytes.joined(Bytes.unsigned(250), 2, 0);
        good(2, told(ahead, 248, new int[249]));
        fault(GRAPH, 4, told(ahead, 249, new int[249]));
    }

    // A number of two bytes counts from its first one on, and the next is behind its last one.
    private static void twoBytesWhereOneEnds() {
        int[] nodes = Bytes.unsigned(200);
        int[] bytes = Bytes.joined(told(Bytes.joined(nodes, 3, 0), 127, Bytes.unsigned(70)), new int[199]);
        RankHouse house = new RankHouse();
        Bytes.tell(house, bytes);
        DUE.is("read()", house.read(), 3);
        DUE.yes("has(0, 128)", house.has(0, 128));
        DUE.yes("has(0, 199)", house.has(0, 199));
        bytes = Bytes.joined(told(Bytes.joined(nodes, 3, 0), 128, Bytes.unsigned(69)), new int[199]);
        Bytes.tell(house, bytes);
        DUE.is("read()", house.read(), 3);
        DUE.yes("has(0, 129)", house.has(0, 129));
        DUE.yes("has(0, 199)", house.has(0, 199));
        fault(GRAPH, 6, Bytes.joined(told(Bytes.joined(nodes, 3, 0), 128, Bytes.unsigned(70)), new int[199]));
    }

    // FAULT 4: "a byte behind the end (at it)", whatever it is.
    private static void byteBehindTheEnd() {
        int[] any = {0, 1, 127, 128, 255};
        for (int octet : any) {
            fault(BEHIND, 2, 1, 0, octet);
            fault(BEHIND, 3, 1, 1, 0, octet);
            fault(BEHIND, 3, 1, 1, 0, octet, octet, octet);
            fault(BEHIND, 252, Bytes.joined(Bytes.joined(Bytes.unsigned(250), new int[250]), octet));
        }
        fault(BEHIND, 1999, Bytes.joined(Bytes.full(45, 1953), 0));
    }

    // "FAULTS of BYTES, the first along them".
    private static void firstAlongThem() {
        fault(GRAPH, 0, 0, 0x80, 0);
        fault(UNSIGNED, 0, 0x80, 0, 3, 9);
        fault(GRAPH, 1, 2, 3, 0x80, 0);
        fault(UNSIGNED, 1, 2, 0x83, 0, 9);
        fault(GRAPH, 2, 2, 1, 4, 0x80, 0);
        fault(UNSIGNED, 2, 2, 1, 0x84, 0, 3);
        fault(GRAPH, 2, 2, 1, 1, 9, 9, 9);
        fault(ENDS, 3, 2, 2, 2);
        fault(UNSIGNED, 3, 2, 2, 2, 0x80, 0);
        fault(GRAPH, 3, 2, 2, 2, 0, 0x80, 0);
    }

    // No tape of 2000 bytes leads to 2500 EDGES; this is the most that one tells.
    private static void mostEdgesOfATape() {
        int[] bytes = Bytes.full(45, 1954);
        RankHouse house = new RankHouse();
        DUE.is("bytes", bytes.length, 2000);
        DUE.is("tape", Bytes.tell(house, bytes), 2000);
        DUE.is("read()", house.read(), 1954);
        DUE.is("count(1)", house.count(1), 1954);
        DUE.is("count(2)", house.count(2), 1);
        DUE.is("edges(42, 0)", house.edges(42, 0), 45);
        DUE.is("edges(43, 0)", house.edges(43, 0), 19);
        DUE.is("other(0, 1, 43)", house.other(0, 1, 43), 43);
        DUE.is("write()", house.write(), 2000);
        for (int k = 0; k < 300; k++) {
            DUE.is("octet(" + (1999 - k) + ")", house.octet(1999 - k), bytes[1999 - k]);
        }
    }
}
