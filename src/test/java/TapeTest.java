import java.util.Arrays;

/** Promises 2 to 5: the tape, reading it, and the FAULTS. */
public final class TapeTest {
    private static final Due DUE = new Due("TapeTest");

    public static void main(String[] args) {
        feedAndEnd();
        orderOfBytes();
        readMakesTheGraph();
        zigzag();
        endsWithin();
        wrongUnsigned();
        wrongGraph();
        byteBehind();
        faultLeavesAll();
        DUE.end();
    }

    private static void feedAndEnd() {
        RankHouse house = new RankHouse();
        DUE.is("count(4) of a new one", house.count(4), 0);
        DUE.yes("end(0) of an empty tape", house.end(0));
        DUE.no("end(1) of an empty tape", house.end(1));
        for (int i = 1; i <= 99; i++) {
            DUE.is("feed " + i, house.feed(i, i, i, i, i), 20 * i);
        }
        DUE.yes("end(1979)", house.end(1979));
        DUE.is("feed to 1999", house.feed(0, 0, 0, 0, 0), 1999);
        DUE.is("feed to 2019", house.feed(0, 0, 0, 0, 0), -1);
        DUE.is("count(4) behind a feed that failed", house.count(4), 1999);
        DUE.yes("end(1981)", house.end(1981));
        DUE.is("feed to 2001", house.feed(0, 0, 0, 0, 0), -1);
        DUE.yes("end(1980)", house.end(1980));
        DUE.is("feed to 2000", house.feed(0, 0, 0, 0, 0), 2000);
        DUE.is("feed to 2020", house.feed(0, 0, 0, 0, 0), -1);
        DUE.yes("end(2000)", house.end(2000));
        DUE.no("end(2001)", house.end(2001));
        DUE.no("end(-1)", house.end(-1));
        DUE.no("end of the least", house.end(Integer.MIN_VALUE));
        DUE.no("end of the greatest", house.end(Integer.MAX_VALUE));
        DUE.is("count(4)", house.count(4), 2000);
        DUE.yes("end(7)", house.end(7));
        DUE.is("count(4)", house.count(4), 7);
        DUE.yes("end(0)", house.end(0));
        DUE.is("count(4)", house.count(4), 0);
    }

    private static void orderOfBytes() {
        // All twenty bytes tell something: the numbers in their order, of each the highest byte first.
        RankHouse house = new RankHouse();
        DUE.is("feed", house.feed(0x07010202, 0x01040003, 0x05000301, 0x04020902, 0x030B0103), 20);
        DUE.is("read()", house.read(), 12);
        int[][] told = {{1}, {0, 5}, {}, {0, 1, 5}, {6}, {0, 3}, {0, 2, 6}};
        for (int u = 0; u < told.length; u++) {
            DUE.is("edges(" + u + ", 0)", house.edges(u, 0), told[u].length);
            for (int v : told[u]) {
                DUE.yes("has(" + u + ", " + v + ")", house.has(u, v));
            }
        }
        DUE.is("feed of high bytes", house.feed(0x85818080, 0, 0, 0, 0), 20);
        DUE.is("read()", house.read(), -1);
        DUE.is("fault()", house.fault(), 2);
    }

    private static void readMakesTheGraph() {
        RankHouse house = new RankHouse();
        house.clear(5);
        house.add(4, 4);
        house.weight(0, 9);
        house.damping(1, 3);
        house.run(2, 0);
        // 0 -> 0, 2, 3; 1 bare; 2 -> 1; 3 -> 3
        DUE.is("tape", Bytes.tell(house, 4, 3, 0, 1, 0, 0, 1, 1, 1, 0), 10);
        DUE.is("read()", house.read(), 5);
        DUE.is("fault()", house.fault(), 0);
        DUE.is("count(4)", house.count(4), 0);
        DUE.is("NODES", house.count(0), 4);
        DUE.is("EDGES", house.count(1), 5);
        DUE.is("BARE NODES", house.count(2), 1);
        DUE.is("WHOLE", house.count(3), 4);
        DUE.is("p stays", house.count(6), 1);
        DUE.is("q stays", house.count(7), 3);
        DUE.is("STEPS", house.look(3), 0);
        DUE.is("rank(3)", house.rank(3), 1L << 30);
        for (int u = -1; u <= 5; u++) {
            for (int v = -1; v <= 5; v++) {
                boolean there = u == 0 && (v == 0 || v == 2 || v == 3) || u == 2 && v == 1 || u == 3 && v == 3;
                DUE.is("has(" + u + ", " + v + ")", house.has(u, v) ? 1 : 0, there ? 1 : 0);
            }
        }
        Bytes.tell(house, 1, 0);
        DUE.is("read() of one bare NODE", house.read(), 0);
        DUE.is("NODES", house.count(0), 1);
        house.run(3, 0);
        Bytes.tell(house, 1, 0);
        DUE.is("read() of the like GRAPH", house.read(), 0);
        DUE.is("STEPS behind it", house.look(3), 0);
    }

    private static void zigzag() {
        RankHouse house = new RankHouse();
        // 200 NODES; NODE 0 goes to 199 (2 * 199 = 398), NODE 199 to 0 (397), NODE 100 to 100.
        int[] bytes = new int[2 + 200 + 2 + 2 + 1];
        bytes[0] = 200 & 127 | 128;
        bytes[1] = 200 >> 7;
        bytes[2] = 1;
        bytes[3] = 398 & 127 | 128;
        bytes[4] = 398 >> 7;
        bytes[5 + 99] = 1;
        bytes[5 + 100] = 0;
        bytes[bytes.length - 3] = 1;
        bytes[bytes.length - 2] = 397 & 127 | 128;
        bytes[bytes.length - 1] = 397 >> 7;
        Bytes.tell(house, bytes);
        DUE.is("read()", house.read(), 3);
        DUE.is("NODES", house.count(0), 200);
        DUE.yes("has(0, 199)", house.has(0, 199));
        DUE.yes("has(199, 0)", house.has(199, 0));
        DUE.yes("has(100, 100)", house.has(100, 100));
    }

    private static void fault(int place, int kind, int... bytes) {
        RankHouse house = new RankHouse();
        DUE.is("fault() ahead of any read()", house.fault(), 0);
        Bytes.tell(house, bytes);
        DUE.is("read() of " + Arrays.toString(bytes), house.read(), -1 - place);
        DUE.is("fault() of " + Arrays.toString(bytes), house.fault(), kind);
        DUE.is("count(4)", house.count(4), 0);
        Bytes.tell(house, 2, 0, 0);
        DUE.is("read() behind a FAULT", house.read(), 0);
        DUE.is("fault() behind one without", house.fault(), 0);
    }

    private static void endsWithin() {
        fault(0, 1);
        fault(1, 1, 3);
        fault(1, 1, 0x83);
        fault(2, 1, 0xFF, 0xFF);
        fault(2, 1, 0x80, 0x80);
        fault(2, 1, 2, 0);
        fault(2, 1, 2, 1);
        fault(3, 1, 2, 1, 0);
        fault(3, 1, 2, 1, 0x80);
        fault(4, 1, 3, 3, 0, 0);
    }

    private static void wrongUnsigned() {
        fault(0, 2, 0x80, 0x00);
        fault(0, 2, 0x81, 0x00, 0);
        fault(0, 2, 0x81, 0x80, 0x00, 0);
        fault(0, 2, 0xFF, 0xFF, 0x04);
        fault(0, 2, 0x80, 0x80, 0x04);
        fault(0, 2, 0xFF, 0xFF, 0x83, 0x00);
        fault(0, 2, 0x81, 0x80, 0x80, 0x00);
        fault(0, 2, 0x80, 0x80, 0x80, 0x80, 0x10);
        // Three bytes that go on are wrong whatever comes, and their first byte is ahead of the end.
        fault(0, 2, 0x80, 0x80, 0x80);
        fault(1, 2, 2, 0xFF, 0xFF, 0xFF);
        fault(1, 2, 2, 0x80, 0x00, 0);
        fault(2, 2, 2, 1, 0x82, 0x00, 0);
        fault(3, 2, 2, 2, 0, 0x80, 0x00, 0);
    }

    private static void wrongGraph() {
        fault(0, 3, 0);
        fault(0, 3, 0xFB, 0x01);
        fault(0, 3, 0xFF, 0xFF, 0x03);
        fault(2, 1, 0xFA, 0x01);
        fault(1, 3, 2, 3);
        fault(1, 3, 2, 0xFF, 0xFF, 0x03);
        fault(2, 1, 2, 2);
        fault(2, 3, 2, 1, 1, 0);
        fault(2, 3, 2, 1, 4, 0);
        fault(2, 3, 2, 1, 0xFF, 0xFF, 0x03);
        fault(2, 3, 2, 1, 0xFE, 0xFF, 0x03);
        fault(3, 3, 2, 2, 0, 1, 0);
        fault(3, 3, 2, 2, 2, 0, 0);
        fault(3, 3, 2, 2, 2, 0xFF, 0xFF, 0x03);
        fault(3, 3, 2, 0, 1, 2);
        fault(3, 3, 2, 0, 1, 3);
    }

    private static void byteBehind() {
        fault(2, 4, 1, 0, 0);
        fault(2, 4, 1, 0, 0x80, 0x00);
        fault(3, 4, 1, 1, 0, 7, 7, 7);
    }

    private static void faultLeavesAll() {
        RankHouse house = new RankHouse();
        house.clear(3);
        house.add(0, 1);
        house.add(1, 2);
        house.weight(2, 5);
        house.run(3, 0);
        house.write();
        long rank = house.rank(2);
        long change = house.look(1);
        long bound = house.look(2);
        Bytes.tell(house, 2, 2, 0, 0, 1, 3);
        DUE.is("read() with a late FAULT", house.read(), -6);
        DUE.is("NODES", house.count(0), 3);
        DUE.is("EDGES", house.count(1), 2);
        DUE.is("WHOLE", house.count(3), 7);
        DUE.is("OUT", house.count(5), 6);
        DUE.yes("has(0, 1)", house.has(0, 1));
        DUE.no("has(0, 0)", house.has(0, 0));
        DUE.is("STEPS", house.look(3), 3);
        DUE.is("RANK", house.rank(2), rank);
        DUE.is("CHANGE", house.look(1), change);
        DUE.is("BOUND", house.look(2), bound);
        DUE.is("the tape is empty", house.read(), -1);
        DUE.is("fault()", house.fault(), 1);
        house.clear(2);
        house.add(0, 0);
        DUE.is("fault() stays behind other calls", house.fault(), 1);
    }
}
