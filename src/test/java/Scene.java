/** Houses in which nothing is as in a new one, and all that can be seen of a house, as a text. */
final class Scene {
    private Scene() {
    }

    /** Four NODES, two STEPS made, a FAULT, BYTES of another GRAPH on the tape, and those of a third in OUT. */
    static RankHouse house() {
        RankHouse house = new RankHouse();
        house.feed(0, 0, 0, 0, 0);
        house.read();
        house.clear(4);
        house.add(0, 1);
        house.add(0, 3);
        house.add(1, 1);
        house.add(3, 2);
        house.write();
        house.add(3, 0);
        house.weight(1, 0);
        house.weight(2, 1000);
        house.damping(3, 7);
        Bytes.tell(house, 3, 1, 2, 0, 2, 3, 0);
        house.run(2, 0);
        return house;
    }

    /** A GRAPH of n NODES; the EDGES are told by pairs. */
    static RankHouse graph(int n, int... edges) {
        RankHouse house = new RankHouse();
        house.clear(n);
        for (int i = 0; i + 1 < edges.length; i += 2) {
            house.add(edges[i], edges[i + 1]);
        }
        return house;
    }

    /** All that asking can tell; it changes nothing. */
    static String seen(RankHouse house) {
        StringBuilder text = new StringBuilder("count");
        for (int what = 0; what < 8; what++) {
            text.append(' ').append(house.count(what));
        }
        text.append(" look");
        for (int what = 0; what < 5; what++) {
            text.append(' ').append(house.look(what));
        }
        text.append(" fault ").append(house.fault()).append(" OUT");
        for (int k = 0; k < house.count(5); k++) {
            text.append(' ').append(house.octet(k));
        }
        for (int u = 0; u < house.count(0); u++) {
            text.append(" | ").append(node(house, u));
        }
        return text.toString();
    }

    /** Also what comes to light by going on alone: WEIGHTS by STEPS, the tape's bytes by reading them. */
    static String all(RankHouse house) {
        StringBuilder text = new StringBuilder(seen(house));
        text.append(" :: run ").append(house.run(1, house.look(1)));
        house.again();
        text.append(" :: run ").append(house.run(2, 0)).append(ranks(house));
        text.append(" :: read ").append(house.read()).append(' ').append(seen(house));
        return text.toString();
    }

    private static String node(RankHouse house, int u) {
        StringBuilder text = new StringBuilder();
        text.append(u).append(" rank ").append(house.rank(u)).append(" top ").append(house.top(u)).append(" from");
        for (int k = 0; k < house.edges(u, 0); k++) {
            int v = house.other(u, 0, k);
            text.append(' ').append(v).append(" gives ").append(house.gives(u, v));
        }
        text.append(" to");
        for (int k = 0; k < house.edges(u, 1); k++) {
            text.append(' ').append(house.other(u, 1, k)).append(" giver ").append(house.giver(u, k));
        }
        return text.toString();
    }

    private static String ranks(RankHouse house) {
        StringBuilder text = new StringBuilder();
        for (int u = 0; u < house.count(0); u++) {
            text.append(' ').append(house.rank(u));
        }
        return text.toString();
    }
}
