/** Promises 21 and 22: the GRAPH as BYTES, and OUT. */
public final class WriteTest {
    private static final Due DUE = new Due("WriteTest");

    public static void main(String[] args) {
        emptyOut();
        ordinary();
        twoByteNumbers();
        outStays();
        mostBytes();
        roundTrip();
        DUE.end();
    }

    private static void out(RankHouse house, int... bytes) {
        DUE.is("write()", house.write(), bytes.length);
        DUE.is("count(5)", house.count(5), bytes.length);
        for (int k = 0; k < bytes.length; k++) {
            DUE.is("octet(" + k + ")", house.octet(k), bytes[k]);
        }
        DUE.noSuchElement("octet behind OUT", () -> house.octet(bytes.length));
        DUE.noSuchElement("octet(-1)", () -> house.octet(-1));
    }

    private static void emptyOut() {
        RankHouse house = new RankHouse();
        DUE.is("count(5)", house.count(5), 0);
        DUE.noSuchElement("octet(0)", () -> house.octet(0));
        DUE.noSuchElement("octet(-1)", () -> house.octet(-1));
        DUE.noSuchElement("octet of the least", () -> house.octet(Integer.MIN_VALUE));
        DUE.noSuchElement("octet of the greatest", () -> house.octet(Integer.MAX_VALUE));
        out(house, 1, 0);
        house.add(0, 0);
        out(house, 1, 1, 0);
    }

    private static void ordinary() {
        RankHouse house = new RankHouse();
        house.clear(5);
        int[][] told = {{4, 0}, {4, 4}, {4, 2}, {0, 3}, {2, 1}, {2, 2}, {3, 3}};
        for (int[] edge : told) {
            house.add(edge[0], edge[1]);
        }
        out(house, 5, 1, 6, 0, 2, 1, 0, 1, 0, 3, 7, 1, 1);
    }

    private static void twoByteNumbers() {
        RankHouse house = new RankHouse();
        house.clear(127);
        DUE.is("write()", house.write(), 128);
        house.clear(128);
        DUE.is("write()", house.write(), 130);
        DUE.is("octet(0)", house.octet(0), 128);
        DUE.is("octet(1)", house.octet(1), 1);
        house.clear(250);
        house.add(0, 63);
        DUE.is("write(): 126", house.write(), 253);
        DUE.is("octet(3)", house.octet(3), 126);
        house.cut(0, 63);
        house.add(0, 64);
        DUE.is("write(): 128", house.write(), 254);
        DUE.is("octet(3)", house.octet(3), 128);
        DUE.is("octet(4)", house.octet(4), 1);
        house.clear(250);
        house.add(249, 0);
        DUE.is("write(): 497", house.write(), 254);
        DUE.is("octet(252)", house.octet(252), 128 + 497 % 128);
        DUE.is("octet(253)", house.octet(253), 497 / 128);
        house.clear(250);
        house.add(0, 0);
        house.add(0, 128);
        DUE.is("write(): 127", house.write(), 254);
        DUE.is("octet(4)", house.octet(4), 127);
        house.cut(0, 128);
        house.add(0, 129);
        DUE.is("write(): 128", house.write(), 255);
        DUE.is("octet(4)", house.octet(4), 128);
        DUE.is("octet(5)", house.octet(5), 1);
    }

    private static void outStays() {
        RankHouse house = new RankHouse();
        house.clear(2);
        house.add(0, 1);
        house.run(3, 0);
        out(house, 2, 1, 2, 0);
        DUE.is("STEPS stay behind write()", house.look(3), 3);
        house.clear(1);
        house.add(0, 0);
        DUE.is("count(5) behind clear()", house.count(5), 4);
        DUE.is("octet(0) behind clear()", house.octet(0), 2);
        Bytes.tell(house, 1, 0);
        house.read();
        DUE.is("octet(2) behind read()", house.octet(2), 2);
        out(house, 1, 0);
    }

    // More calls than an object is promised for: no other way leads to as many bytes.
    private static void mostBytes() {
        RankHouse house = new RankHouse();
        house.clear(250);
        int left = 2500;
        for (int u = 0; u < 250; u++) {
            // The first EDGE far off, then one gap beyond 128 where there is room for it.
            left -= house.add(u, u < 100 ? u + 64 : 0) ? 1 : 0;
            left -= house.add(u, u < 21 ? u + 64 + 129 : 249) ? 1 : 0;
        }
        for (int i = 0; i < 62500 && left > 0; i++) {
            left -= house.add(i % 250, 249 - i / 250) ? 1 : 0;
        }
        DUE.is("EDGES", house.count(1), 2500);
        int length = house.write();
        Model model = Model.of(house);
        DUE.is("write()", length, model.write());
        for (int k = 0; k < length; k++) {
            DUE.is("octet(" + k + ")", house.octet(k), model.octet(k));
        }
    }

    private static void roundTrip() {
        RankHouse house = new RankHouse();
        house.clear(200);
        for (int i = 0; i < 80; i++) {
            house.add(i * 31 % 199, i * i * 7 % 200);
        }
        int[] bytes = new int[house.write()];
        for (int k = 0; k < bytes.length; k++) {
            bytes[k] = house.octet(k);
        }
        RankHouse copy = new RankHouse();
        Bytes.tell(copy, bytes);
        DUE.is("read() of what was written", copy.read(), house.count(1));
        for (int i = 0; i < 80; i++) {
            DUE.yes("has() of what was read", copy.has(i * 31 % 199, i * i * 7 % 200));
        }
        DUE.is("write() of what was read", copy.write(), bytes.length);
        for (int k = 0; k < 300; k++) {
            DUE.is("octet(" + k + ") of what was read", copy.octet(k), bytes[k]);
        }
    }
}
