/** Promises 13 to 20: DAMPING, STEPS, RANKS, and who gives what. */
public final class RankTest {
    private static final Due DUE = new Due("RankTest");
    private static final long ONE = 1L << 32;

    public static void main(String[] args) {
        beginning();
        damping();
        stepByHand();
        runStops();
        wrongRuns();
        again();
        look();
        top();
        givesAndGiver();
        greatNumbers();
        boundHolds();
        DUE.end();
    }

    private static void beginning() {
        for (int n = 1; n <= 250; n++) {
            RankHouse house = new RankHouse();
            house.clear(n);
            long left = ONE % n;
            long first = ONE / n + (left > 0 ? 1 : 0);
            DUE.is("rank(0) of " + n, house.rank(0), first);
            DUE.is("rank of the last of " + n, house.rank(n - 1), ONE / n);
            DUE.is("look(0) of " + n, house.look(0), ONE);
            if (left > 0) {
                int at = (int) left;
                DUE.is("rank ahead of the edge of " + n, house.rank(at - 1), ONE / n + 1);
                DUE.is("rank behind the edge of " + n, house.rank(at), ONE / n);
            }
        }
    }

    private static void damping() {
        RankHouse house = new RankHouse();
        house.clear(3);
        house.add(0, 1);
        house.run(1, 0);
        int[][] wrong = {{-1, 2}, {2, 2}, {3, 2}, {0, 0}, {0, -1}, {-2, -1}, {0, 1 << 30}, {1, 1 << 30},
            {0, Integer.MAX_VALUE}, {Integer.MIN_VALUE, Integer.MAX_VALUE}};
        for (int[] pair : wrong) {
            DUE.no("damping(" + pair[0] + ", " + pair[1] + ")", house.damping(pair[0], pair[1]));
        }
        DUE.is("p", house.count(6), 17);
        DUE.is("q", house.count(7), 20);
        DUE.is("STEPS stay", house.look(3), 1);
        DUE.yes("damping(17, 20) as it was", house.damping(17, 20));
        DUE.is("no STEP made", house.look(3), 0);
        DUE.yes("damping(0, 1)", house.damping(0, 1));
        DUE.yes("damping(2^30 - 2, 2^30 - 1)", house.damping((1 << 30) - 2, (1 << 30) - 1));
        DUE.is("p", house.count(6), (1 << 30) - 2);
        DUE.is("q", house.count(7), (1 << 30) - 1);
        house.clear(2);
        DUE.is("p stays behind clear()", house.count(6), (1 << 30) - 2);
        DUE.yes("damping(34, 40) is not made less", house.damping(34, 40));
        DUE.is("p", house.count(6), 34);
    }

    private static void stepByHand() {
        RankHouse house = new RankHouse();
        house.clear(3);
        house.add(0, 1);
        house.add(0, 2);
        house.add(1, 1);
        house.weight(0, 3);
        house.weight(1, 0);
        DUE.is("run(1, 0)", house.run(1, 0), 1);
        // B = 1431655765; T = (3 * 2^32 + 17 * 1431655765) DIV 20 = 1861152494
        // NODE 0: T * 3 DIV 4; NODE 1: 17 * 1431655766 DIV 40 and 17 * 1431655765 DIV 20; NODE 2: T DIV 4 and the like.
        DUE.is("rank(0)", house.rank(0), 1395864370L);
        DUE.is("rank(1)", house.rank(1), 608453700L + 1216907400L);
        DUE.is("rank(2)", house.rank(2), 465288123L + 608453700L);
        DUE.is("look(0)", house.look(0), 1395864370L + 1825361100L + 1073741823L);
        DUE.is("look(1)", house.look(1), (1431655766L - 1395864370L) + (1825361100L - 1431655765L)
                + (1431655765L - 1073741823L));
        DUE.is("look(3)", house.look(3), 1);
        DUE.is("look(4)", house.look(4), 1073741823L);
        DUE.is("look(2)", house.look(2), 2 * ONE * 17 / 20 + 1 + 9 * 20 / 3 + 1);
    }

    private static void runStops() {
        RankHouse house = new RankHouse();
        house.clear(4);
        house.add(0, 1);
        house.add(1, 2);
        house.add(2, 0);
        house.add(3, 0);
        DUE.is("run(0, 0)", house.run(0, 0), 0);
        DUE.is("run(0, greatest)", house.run(0, Long.MAX_VALUE), 0);
        DUE.is("run(5, greatest): the first STEP has none ahead", house.run(5, Long.MAX_VALUE), 1);
        DUE.is("run(5, greatest): one of an earlier call", house.run(5, Long.MAX_VALUE), 0);
        long change = house.look(1);
        DUE.is("run(7, CHANGE)", house.run(7, change), 0);
        DUE.yes("run(7, CHANGE - 1)", house.run(7, change - 1) > 0);
        DUE.yes("CHANGE", house.look(1) <= change - 1);
        DUE.is("run(3, 0)", house.run(3, 0), 3);
        long made = house.look(3);
        int more = house.run(100, 1000);
        DUE.is("STEPS are added", house.look(3), made + more);
        DUE.yes("CHANGE is at most small", house.look(1) <= 1000);
        DUE.is("run(100, 1000) again", house.run(100, 1000), 0);
        DUE.yes("run(100, 999...)", house.run(1, house.look(1) - 1) == 1);
        for (int i = 0; i < 10 && house.look(1) > 0; i++) {
            house.run(100, 0);
        }
        DUE.is("CHANGE comes to 0", house.look(1), 0);
        DUE.is("run(100, 0) behind it", house.run(100, 0), 0);
        house.weight(0, 2);
        DUE.is("run(1, greatest) at the BEGINNING", house.run(1, Long.MAX_VALUE), 1);
        RankHouse slow = new RankHouse();
        slow.clear(2);
        slow.add(0, 1);
        slow.add(1, 0);
        slow.weight(0, 0);
        slow.damping(999999, 1000000);
        DUE.is("run(100, 0)", slow.run(100, 0), 100);
        DUE.is("run(100, 0)", slow.run(100, 0), 100);
        DUE.is("STEPS", slow.look(3), 200);
    }

    private static void wrongRuns() {
        RankHouse house = new RankHouse();
        house.clear(3);
        house.add(0, 1);
        house.run(2, 0);
        long rank = house.rank(1);
        DUE.illegalArgument("run(-1, 0)", () -> house.run(-1, 0));
        DUE.illegalArgument("run(101, 0)", () -> house.run(101, 0));
        DUE.illegalArgument("run(1, -1)", () -> house.run(1, -1));
        DUE.illegalArgument("run(0, -1)", () -> house.run(0, -1));
        DUE.illegalArgument("run(1, least)", () -> house.run(1, Long.MIN_VALUE));
        DUE.illegalArgument("run(least, 0)", () -> house.run(Integer.MIN_VALUE, 0));
        DUE.illegalArgument("run(greatest, 0)", () -> house.run(Integer.MAX_VALUE, 0));
        DUE.is("STEPS stay", house.look(3), 2);
        DUE.is("RANKS stay", house.rank(1), rank);
    }

    private static void again() {
        RankHouse house = new RankHouse();
        house.clear(3);
        house.add(0, 1);
        house.weight(0, 5);
        house.run(4, 0);
        house.again();
        DUE.is("rank(0)", house.rank(0), ONE / 3 + 1);
        DUE.is("rank(1)", house.rank(1), ONE / 3);
        DUE.is("look(1)", house.look(1), 2 * ONE);
        DUE.is("look(2)", house.look(2), 2 * ONE + 7 * 20 / 3 + 1);
        DUE.is("look(3)", house.look(3), 0);
        DUE.is("WHOLE stays", house.count(3), 7);
        DUE.yes("EDGES stay", house.has(0, 1));
        DUE.is("run(1, greatest)", house.run(1, Long.MAX_VALUE), 1);
    }

    private static void look() {
        RankHouse house = new RankHouse();
        house.clear(10);
        house.add(0, 1);
        house.add(2, 3);
        house.add(2, 4);
        house.damping(1, 3);
        DUE.is("look(0)", house.look(0), ONE);
        DUE.is("look(1)", house.look(1), 2 * ONE);
        DUE.is("look(2)", house.look(2), 2 * ONE + 23 * 3 / 2 + 1);
        DUE.is("look(3)", house.look(3), 0);
        DUE.is("look(4)", house.look(4), house.look(0) - house.rank(0) - house.rank(2));
        long error = 2 * ONE;
        for (int i = 1; i <= 60; i++) {
            house.clear(10);
            house.run(i, 0);
            error = error / 3 + 1;
            if (house.look(3) == i) {
                DUE.is("look(2) behind " + i, house.look(2), error + 20 * 3 / 2 + 1);
            }
        }
        int[] others = {-1, 5, Integer.MIN_VALUE, Integer.MAX_VALUE};
        for (int what : others) {
            DUE.is("look(" + what + ")", house.look(what), -1);
        }
    }

    private static void top() {
        RankHouse house = new RankHouse();
        house.clear(5);
        // ONE MOD 5 is 1: NODE 0 has 1 more.
        int[] begin = {0, 1, 2, 3, 4, -1};
        for (int k = 0; k < 6; k++) {
            DUE.is("top(" + k + ") at the BEGINNING", house.top(k), begin[k]);
        }
        house.weight(4, 9);
        house.weight(2, 5);
        house.weight(3, 5);
        house.weight(1, 0);
        house.run(1, 0);
        int[] order = {4, 2, 3, 0, 1, -1};
        for (int k = 0; k < 6; k++) {
            DUE.is("top(" + k + ")", house.top(k), order[k]);
        }
        DUE.is("top(-1)", house.top(-1), -1);
        DUE.is("top of the greatest", house.top(Integer.MAX_VALUE), -1);
        DUE.is("top of the least", house.top(Integer.MIN_VALUE), -1);
        house.clear(250);
        DUE.is("top(249)", house.top(249), 249);
        DUE.is("top(250)", house.top(250), -1);
    }

    private static void givesAndGiver() {
        RankHouse house = new RankHouse();
        house.clear(6);
        house.add(0, 5);
        house.add(0, 4);
        house.add(1, 5);
        house.add(3, 5);
        house.add(5, 5);
        house.add(5, 4);
        house.add(5, 3);
        long low = ONE / 6;
        DUE.is("gives(0, 5)", house.gives(0, 5), 17 * (low + 1) / 40);
        DUE.is("gives(0, 4)", house.gives(0, 4), 17 * (low + 1) / 40);
        DUE.is("gives(1, 5)", house.gives(1, 5), 17 * (low + 1) / 20);
        DUE.is("gives(5, 5)", house.gives(5, 5), 17 * low / 60);
        DUE.is("gives(5, 0)", house.gives(5, 0), -1);
        DUE.is("gives(2, 5)", house.gives(2, 5), -1);
        DUE.is("gives(6, 5)", house.gives(6, 5), -1);
        DUE.is("gives(0, -1)", house.gives(0, -1), -1);
        DUE.is("gives(least, greatest)", house.gives(Integer.MIN_VALUE, Integer.MAX_VALUE), -1);
        int[] givers = {1, 3, 0, 5, -1};
        for (int k = 0; k < givers.length; k++) {
            DUE.is("giver(5, " + k + ")", house.giver(5, k), givers[k]);
        }
        DUE.is("giver(5, -1)", house.giver(5, -1), -1);
        DUE.is("giver(6, 0)", house.giver(6, 0), -1);
        DUE.is("giver(-1, 0)", house.giver(-1, 0), -1);
        DUE.is("giver(0, 0)", house.giver(0, 0), -1);
        DUE.is("giver(5, greatest)", house.giver(5, Integer.MAX_VALUE), -1);
        house.run(1, 0);
        DUE.is("giver(5, 0): by what it gives now", house.giver(5, 0), 5);
        house.damping(0, 1);
        DUE.is("gives(0, 5) of DAMPING 0", house.gives(0, 5), 0);
        for (int k = 0; k < 5; k++) {
            int[] like = {0, 1, 3, 5, -1};
            DUE.is("giver(5, " + k + ") of like ones", house.giver(5, k), like[k]);
        }
    }

    private static void greatNumbers() {
        int q = (1 << 30) - 1;
        RankHouse house = new RankHouse();
        house.damping(q - 1, q);
        DUE.is("look(2)", house.look(2), 2 * ONE + 2L * q + 1);
        DUE.is("run(100, 0)", house.run(100, 0), 1);
        DUE.is("rank(0): all of a BARE NODE comes back", house.rank(0), ONE);
        house.add(0, 0);
        DUE.is("gives(0, 0)", house.gives(0, 0), ONE - 5);
        house.clear(250);
        DUE.is("look(2)", house.look(2), 2 * ONE + 500L * q + 1);
        house.damping(0, q);
        house.weight(7, 1000);
        house.run(1, 0);
        DUE.is("rank(7)", house.rank(7), ONE * 1000 / 1249);
        DUE.is("rank(8)", house.rank(8), ONE / 1249);
    }

    // What the BOUND is for: RANKS of many STEPS are no further off than an earlier BOUND tells.
    private static void boundHolds() {
        int[] edges = new int[60];
        for (int i = 0; i < 30; i++) {
            edges[2 * i] = i * 7 % 9;
            edges[2 * i + 1] = i * i % 10;
        }
        RankHouse early = Scene.graph(10, edges);
        RankHouse late = Scene.graph(10, edges);
        for (int i = 0; i < 5; i++) {
            late.run(100, 0);
        }
        for (int steps = 0; steps < 36; steps++) {
            long off = 0;
            for (int u = 0; u < 10; u++) {
                off += Math.abs(early.rank(u) - late.rank(u));
            }
            DUE.yes("BOUND behind " + steps, off <= early.look(2) + late.look(2));
            early.run(1, 0);
        }
    }
}
