import java.math.BigInteger;

/** The boundary cases of promises 13 to 20: DAMPING, STEPS, RANKS, and who gives what. */
public final class RankBoundaryTest {
    private static final Due DUE = new Due("RankBoundaryTest");
    private static final long ONE = 1L << 32;
    private static final int LIMIT = 1 << 30;

    public static void main(String[] args) {
        leastAndMostDamping();
        dampingNotAsTold();
        dampingAtFirst();
        oneMoreBelowTheRest();
        leastAndMostSteps();
        leastAndMostSmall();
        firstStepIsAlwaysMade();
        smallIsTheChange();
        stopsWithinARun();
        noStepBehindAnEarlierCall();
        moreStepsThanOneRun();
        againAtTheBeginning();
        rankAtTheEnds();
        rankOfLessNodes();
        lookAtTheEnds();
        bareAndNotBare();
        noDamping();
        greatestDamping();
        weightZero();
        sharesThatAreCut();
        changeOfZero();
        bound();
        boundOfManySteps();
        topAtTheEnds();
        topOfLikeOnes();
        givesWithoutTheEdge();
        givesIsWhatAStepAdds();
        giverAtTheEnds();
        giverOfLikeOnes();
        giverByWhatItGives();
        DUE.end();
    }

    private static void ranks(String when, RankHouse house, long... want) {
        for (int u = 0; u < want.length; u++) {
            DUE.is("rank(" + u + ") " + when, house.rank(u), want[u]);
        }
    }

    // "DAMPING is p / q, 0 <= p < q < 2^30"; promise 13.
    private static void leastAndMostDamping() {
        int[][] good = {{0, 1}, {0, 2}, {1, 2}, {0, LIMIT - 1}, {1, LIMIT - 1}, {LIMIT - 2, LIMIT - 1},
            {LIMIT - 3, LIMIT - 2}, {4, 8}};
        RankHouse house = Scene.graph(2, 0, 1);
        for (int[] pair : good) {
            DUE.yes("damping(" + pair[0] + ", " + pair[1] + ")", house.damping(pair[0], pair[1]));
            DUE.is("count(6)", house.count(6), pair[0]);
            DUE.is("count(7)", house.count(7), pair[1]);
        }
    }

    private static void dampingNotAsTold() {
        RankHouse house = Scene.graph(2, 0, 1);
        int[][] wrong = {{-1, 1}, {-1, 20}, {1, 1}, {2, 1}, {20, 20}, {21, 20}, {0, 0}, {-1, 0}, {0, -1}, {-2, -1},
            {0, LIMIT}, {17, LIMIT}, {LIMIT - 1, LIMIT}, {LIMIT - 1, LIMIT - 1}, {0, Integer.MAX_VALUE},
            {Integer.MIN_VALUE, 20}, {Integer.MIN_VALUE, Integer.MIN_VALUE + 1},
            {Integer.MAX_VALUE - 1, Integer.MAX_VALUE}, {Integer.MAX_VALUE, Integer.MIN_VALUE}};
        for (int[] pair : wrong) {
            DUE.no("damping(" + pair[0] + ", " + pair[1] + ")", house.damping(pair[0], pair[1]));
            DUE.is("count(6)", house.count(6), 17);
            DUE.is("count(7)", house.count(7), 20);
        }
    }

    // "(17 / 20 at first)", and behind a clear() or a read() what it was.
    private static void dampingAtFirst() {
        RankHouse house = new RankHouse();
        DUE.is("count(6)", house.count(6), 17);
        DUE.is("count(7)", house.count(7), 20);
        house.damping(1, 2);
        house.clear(3);
        DUE.is("count(7) behind clear()", house.count(7), 2);
        Bytes.tell(house, 1, 0);
        house.read();
        DUE.is("count(7) behind read()", house.count(7), 2);
        house.again();
        DUE.is("count(7) behind again()", house.count(7), 2);
    }

    // "At the BEGINNING NODE i has ONE DIV n, those below ONE MOD n have 1 more."
    private static void oneMoreBelowTheRest() {
        int[] sizes = {1, 2, 3, 5, 6, 7, 128, 129, 249, 250};
        for (int n : sizes) {
            RankHouse house = Scene.graph(n);
            int rest = (int) (ONE % n);
            for (int i = 0; i < n; i++) {
                DUE.is("rank(" + i + ") of " + n, house.rank(i), ONE / n + (i < rest ? 1 : 0));
            }
            DUE.is("look(0) of " + n, house.look(0), ONE);
        }
    }

    // Promise 14: "At most n STEPS (0 to 100)".
    private static void leastAndMostSteps() {
        RankHouse house = Scene.graph(3, 0, 1, 1, 0);
        house.damping(999, 1000);
        house.weight(0, 9);
        DUE.is("run(0, 0)", house.run(0, 0), 0);
        DUE.is("look(3)", house.look(3), 0);
        DUE.is("look(1)", house.look(1), 2 * ONE);
        DUE.is("run(1, 0)", house.run(1, 0), 1);
        DUE.is("run(100, 0)", house.run(100, 0), 100);
        DUE.is("look(3)", house.look(3), 101);
        int[] wrong = {-1, 101, 102, Integer.MIN_VALUE, Integer.MAX_VALUE};
        for (int n : wrong) {
            DUE.illegalArgument("run(" + n + ", 0)", () -> house.run(n, 0));
            DUE.illegalArgument("run(" + n + ", greatest)", () -> house.run(n, Long.MAX_VALUE));
            DUE.is("look(3)", house.look(3), 101);
        }
    }

    // Promise 14: "IllegalArgumentException: [..] or small below 0."
    private static void leastAndMostSmall() {
        RankHouse house = Scene.graph(3, 0, 1, 1, 0);
        house.weight(0, 9);
        DUE.is("run(1, 0)", house.run(1, 0), 1);
        DUE.is("run(1, greatest)", house.run(1, Long.MAX_VALUE), 0);
        long[] wrong = {-1, -ONE, Integer.MIN_VALUE, Long.MIN_VALUE, Long.MIN_VALUE + 1};
        for (long small : wrong) {
            DUE.illegalArgument("run(0, " + small + ")", () -> house.run(0, small));
            DUE.illegalArgument("run(1, " + small + ")", () -> house.run(1, small));
            DUE.illegalArgument("run(101, " + small + ")", () -> house.run(101, small));
            DUE.is("look(3)", house.look(3), 1);
        }
    }

    // Promise 14: "none behind one [..] whose CHANGE is at most small": ahead of any there is no such one.
    private static void firstStepIsAlwaysMade() {
        long[] smalls = {0, 2 * ONE - 1, 2 * ONE, 2 * ONE + 1, Long.MAX_VALUE};
        for (long small : smalls) {
            RankHouse house = Scene.graph(3, 0, 1);
            DUE.is("run(1, " + small + ")", house.run(1, small), 1);
            house.again();
            DUE.is("run(1, " + small + ") behind again()", house.run(1, small), 1);
        }
        RankHouse house = Scene.graph(3, 0, 1);
        DUE.is("run(100, greatest)", house.run(100, Long.MAX_VALUE), 1);
    }

    private static void smallIsTheChange() {
        RankHouse house = Scene.graph(3, 0, 1, 1, 2, 2, 1);
        house.run(1, 0);
        long change = house.look(1);
        DUE.yes("CHANGE", change > 1);
        DUE.is("run(5, CHANGE + 1)", house.run(5, change + 1), 0);
        DUE.is("run(5, CHANGE)", house.run(5, change), 0);
        DUE.is("look(3)", house.look(3), 1);
        DUE.is("run(1, CHANGE - 1)", house.run(1, change - 1), 1);
        DUE.is("look(3)", house.look(3), 2);
    }

    private static void stopsWithinARun() {
        RankHouse slow = Scene.graph(3, 0, 1, 1, 2, 2, 1);
        for (int steps = 1; steps <= 20; steps++) {
            slow.run(1, 0);
            RankHouse house = Scene.graph(3, 0, 1, 1, 2, 2, 1);
            DUE.is("run(100, CHANGE of STEP " + steps + ")", house.run(100, slow.look(1)), steps);
            DUE.is("look(1)", house.look(1), slow.look(1));
            ranks("behind " + steps, house, slow.rank(0), slow.rank(1), slow.rank(2));
        }
    }

    // "(of an earlier call, too)".
    private static void noStepBehindAnEarlierCall() {
        RankHouse house = Scene.graph(4);
        DUE.is("run(100, 0): all stays as it was", house.run(100, 0), 1);
        DUE.is("look(1)", house.look(1), 0);
        DUE.is("run(100, 0)", house.run(100, 0), 0);
        DUE.is("run(1, greatest)", house.run(1, Long.MAX_VALUE), 0);
        DUE.is("look(3)", house.look(3), 1);
        house.again();
        DUE.is("run(100, 0) behind again()", house.run(100, 0), 1);
    }

    private static void moreStepsThanOneRun() {
        // What NODE 2 gave goes to and fro between the two others.
        RankHouse house = Scene.graph(3, 0, 1, 1, 0, 2, 0);
        house.damping(LIMIT - 2, LIMIT - 1);
        for (int i = 1; i <= 20; i++) {
            DUE.is("run(100, 0)", house.run(100, 0), 100);
            DUE.is("look(3)", house.look(3), 100 * i);
        }
    }

    // Promise 15: "RANKS are at their BEGINNING."
    private static void againAtTheBeginning() {
        RankHouse house = Scene.house();
        house.again();
        ranks("behind again()", house, ONE / 4, ONE / 4, ONE / 4, ONE / 4);
        DUE.is("look(1)", house.look(1), 2 * ONE);
        DUE.is("look(2)", house.look(2), 2 * ONE + 13 * 7 / 4 + 1);
        DUE.is("look(3)", house.look(3), 0);
        int[] counts = {4, 5, 1, 1002, 7, 9, 3, 7};
        for (int what = 0; what < counts.length; what++) {
            DUE.is("count(" + what + ") stays", house.count(what), counts[what]);
        }
        DUE.is("fault() stays", house.fault(), 3);
        String once = Scene.seen(house);
        house.again();
        DUE.same("again() twice", Scene.seen(house), once);
        RankHouse fresh = new RankHouse();
        fresh.again();
        DUE.same("again() of a new one", Scene.seen(fresh), Scene.seen(new RankHouse()));
    }

    // Promise 16: "NoSuchElementException: there is none such."
    private static void rankAtTheEnds() {
        int[] sizes = {1, 2, 250};
        for (int n : sizes) {
            RankHouse house = Scene.graph(n);
            DUE.is("rank(n - 1) of " + n, house.rank(n - 1), ONE / n);
            int[] wrong = {-1, n, n + 1, 250, 251, Integer.MIN_VALUE, Integer.MAX_VALUE};
            for (int u : wrong) {
                DUE.noSuchElement("rank(" + u + ") of " + n, () -> house.rank(u));
            }
        }
    }

    private static void rankOfLessNodes() {
        RankHouse house = Scene.graph(5);
        house.run(1, 0);
        house.clear(2);
        DUE.noSuchElement("rank(2) behind clear(2)", () -> house.rank(2));
        DUE.is("top(2)", house.top(2), RankHouse.NONE);
        DUE.is("look(0)", house.look(0), ONE);
    }

    // Promise 17: "NONE for another what."
    private static void lookAtTheEnds() {
        RankHouse house = Scene.graph(3, 0, 1);
        long[] want = {ONE, 2 * ONE, 2 * ONE + 7 * 20 / 3 + 1, 0, 2 * (ONE / 3)};
        for (int what = 0; what < want.length; what++) {
            DUE.is("look(" + what + ")", house.look(what), want[what]);
        }
        int[] others = {-1, 5, 6, Integer.MIN_VALUE, Integer.MAX_VALUE};
        for (int what : others) {
            DUE.is("look(" + what + ")", house.look(what), RankHouse.NONE);
        }
    }

    // "A NODE without EDGES from it is BARE", be there EDGES to it or not.
    private static void bareAndNotBare() {
        RankHouse house = Scene.graph(3, 0, 2);
        DUE.is("BARE NODES", house.count(2), 2);
        DUE.is("look(4)", house.look(4), house.rank(1) + house.rank(2));
        house.add(1, 1);
        house.add(2, 0);
        DUE.is("BARE NODES", house.count(2), 0);
        DUE.is("look(4) of none", house.look(4), 0);
        house.run(1, 0);
        DUE.is("look(4) of none", house.look(4), 0);
        house.clear(3);
        DUE.is("look(4) of all", house.look(4), ONE);
        house.run(1, 0);
        ranks("of BARE NODES alone", house, ONE / 3, ONE / 3, ONE / 3);
        DUE.is("look(0): what DIV cuts is gone", house.look(0), ONE - 1);
        DUE.is("look(1)", house.look(1), 1);
    }

    // "0 <= p": nothing goes along EDGES then.
    private static void noDamping() {
        RankHouse house = Scene.graph(3, 0, 1, 1, 1, 2, 1);
        house.damping(0, 1);
        house.weight(2, 2);
        DUE.is("gives(0, 1)", house.gives(0, 1), 0);
        DUE.is("run(100, 0)", house.run(100, 0), 2);
        ranks("of p = 0", house, ONE / 4, ONE / 4, ONE / 2);
        DUE.is("look(2)", house.look(2), 1 + (3 + 6) + 1);
    }

    // "q < 2^30": the products come near to 2^63 and not beyond it.
    private static void greatestDamping() {
        int q = LIMIT - 1;
        int p = q - 1;
        RankHouse house = Scene.graph(1, 0, 0);
        house.damping(p, q);
        DUE.is("gives(0, 0)", house.gives(0, 0), div(p, ONE, q));
        DUE.is("run(1, 0)", house.run(1, 0), 1);
        // T = ONE DIV q = 4
        DUE.is("rank(0)", house.rank(0), 4 + div(p, ONE, q));
        DUE.is("look(2)", house.look(2), div(2 * ONE, p, q) + 1 + 3L * q + 1);
        RankHouse bare = Scene.graph(2, 0, 1);
        bare.weight(0, 1000);
        bare.damping(p, q);
        bare.run(1, 0);
        long t = BigInteger.valueOf(ONE).add(BigInteger.valueOf(p).multiply(BigInteger.valueOf(ONE / 2)))
                .divide(BigInteger.valueOf(q)).longValueExact();
        DUE.is("rank(0)", bare.rank(0), t * 1000 / 1001);
        DUE.is("rank(1)", bare.rank(1), t / 1001 + div(p, ONE / 2, q));
    }

    private static long div(long a, long b, long c) {
        return BigInteger.valueOf(a).multiply(BigInteger.valueOf(b)).divide(BigInteger.valueOf(c)).longValueExact();
    }

    private static void weightZero() {
        RankHouse house = Scene.graph(2, 1, 1);
        house.weight(0, 0);
        house.run(1, 0);
        DUE.is("rank(0): no WEIGHT, no EDGES to it", house.rank(0), 0);
        // T = (3 ONE + 17 ONE DIV 2) DIV 20; NODE 1 has all of it, and 17 ONE DIV 2 DIV 20 of its own.
        DUE.is("rank(1)", house.rank(1), (3 * ONE + 17 * (ONE / 2)) / 20 + 17 * (ONE / 2) / 20);
        DUE.is("top(0)", house.top(0), 1);
        DUE.is("top(1): a RANK of 0 counts too", house.top(1), 0);
    }

    // "(DIV cuts.)": each share for itself, not their sum.
    private static void sharesThatAreCut() {
        RankHouse house = Scene.graph(3, 0, 2, 1, 2);
        house.damping(1, 2);
        // RANKS are 1431655766, 1431655765, 1431655765; their halves are cut: 715827883 and 715827882.
        DUE.is("gives(0, 2)", house.gives(0, 2), 715827883L);
        DUE.is("gives(1, 2)", house.gives(1, 2), 715827882L);
        house.run(1, 0);
        // T = (ONE + 1431655765) DIV 2 = 2863311530; a third of it is 954437176.
        ranks("of cut shares", house, 954437176L, 954437176L, 954437176L + 715827883L + 715827882L);
        DUE.is("look(0)", house.look(0), 3 * 954437176L + 1431655765L);
    }

    // "how far all RANKS are from those ahead of it, together": ups and downs do not make one another up.
    private static void changeOfZero() {
        RankHouse house = Scene.graph(2, 0, 1, 1, 0);
        house.damping(1, 2);
        DUE.is("run(100, 0)", house.run(100, 0), 1);
        DUE.is("look(1)", house.look(1), 0);
        RankHouse other = Scene.graph(2, 0, 1);
        other.damping(1, 2);
        other.run(1, 0);
        // T = (ONE + ONE DIV 2) DIV 2; NODE 0 has the half of T, NODE 1 ONE DIV 4 more.
        ranks("of a change", other, ONE * 3 / 8, ONE * 5 / 8);
        DUE.is("look(1)", other.look(1), ONE / 4);
    }

    // "e = 2 ONE at the BEGINNING; with each STEP e is e p DIV q and 1 more".
    private static void bound() {
        RankHouse house = new RankHouse();
        DUE.is("look(2) of the least GRAPH", house.look(2), 2 * ONE + 2 * 20 / 3 + 1);
        house.damping(0, 1);
        DUE.is("look(2) of p = 0", house.look(2), 2 * ONE + 2 + 1);
        house.run(1, 0);
        DUE.is("look(2) of p = 0 behind a STEP", house.look(2), 1 + 2 + 1);
        house.damping(LIMIT - 2, LIMIT - 1);
        DUE.is("look(2) of q - p = 1", house.look(2), 2 * ONE + 2L * (LIMIT - 1) + 1);
        house.clear(250);
        house.add(0, 0);
        DUE.is("look(2) of 250 NODES", house.look(2), 2 * ONE + 501L * (LIMIT - 1) + 1);
        house.cut(0, 0);
        DUE.is("look(2) of an EDGE less", house.look(2), 2 * ONE + 500L * (LIMIT - 1) + 1);
    }

    private static void boundOfManySteps() {
        RankHouse house = Scene.graph(2, 0, 1, 1, 0);
        house.weight(0, 0);
        house.damping(99, 100);
        long e = 2 * ONE;
        for (int i = 0; i < 200; i++) {
            DUE.is("run(1, 0)", house.run(1, 0), 1);
            e = e * 99 / 100 + 1;
            DUE.is("look(2)", house.look(2), e + 6 * 100 + 1);
        }
    }

    // Promise 18: "number k (from 0 on) by RANK [..]; NONE without it."
    private static void topAtTheEnds() {
        int[] sizes = {1, 2, 250};
        for (int n : sizes) {
            RankHouse house = Scene.graph(n);
            house.weight(n - 1, 2);
            house.run(1, 0);
            DUE.is("top(0) of " + n, house.top(0), n - 1);
            DUE.is("top(n - 1) of " + n, house.top(n - 1), Math.max(n - 2, 0));
            int[] wrong = {-1, n, n + 1, 250, 251, Integer.MIN_VALUE, Integer.MAX_VALUE};
            for (int k : wrong) {
                DUE.is("top(" + k + ") of " + n, house.top(k), RankHouse.NONE);
            }
        }
    }

    // "of like ones the lesser number".
    private static void topOfLikeOnes() {
        RankHouse house = Scene.graph(4);
        for (int k = 0; k < 4; k++) {
            DUE.is("top(" + k + ") of like ones", house.top(k), k);
        }
        RankHouse six = Scene.graph(6);
        // ONE MOD 6 is 4: NODES 4 and 5 have 1 less.
        int[] weights = {3, 7, 0, 7, 3, 7};
        for (int u = 0; u < 6; u++) {
            DUE.is("top(" + u + ") at the BEGINNING", six.top(u), u);
            six.weight(u, weights[u]);
        }
        six.run(1, 0);
        int[] order = {1, 3, 5, 0, 4, 2};
        for (int k = 0; k < 6; k++) {
            DUE.is("top(" + k + ") of two and three like ones", six.top(k), order[k]);
        }
    }

    // Promise 19: "NONE without it."
    private static void givesWithoutTheEdge() {
        RankHouse house = Scene.graph(250, 0, 249, 249, 0, 249, 249);
        DUE.is("gives(0, 249)", house.gives(0, 249), 17 * house.rank(0) / 20);
        DUE.is("gives(249, 0)", house.gives(249, 0), 17 * house.rank(249) / 40);
        DUE.is("gives(249, 249)", house.gives(249, 249), 17 * house.rank(249) / 40);
        DUE.is("gives(0, 0)", house.gives(0, 0), RankHouse.NONE);
        DUE.is("gives(1, 1) of a BARE NODE", house.gives(1, 1), RankHouse.NONE);
        int[] wrong = {-1, 250, Integer.MIN_VALUE, Integer.MAX_VALUE};
        for (int u : wrong) {
            DUE.is("gives(" + u + ", 0)", house.gives(u, 0), RankHouse.NONE);
            DUE.is("gives(0, " + u + ")", house.gives(0, u), RankHouse.NONE);
            DUE.is("gives(" + u + ", " + u + ")", house.gives(u, u), RankHouse.NONE);
        }
        house.cut(249, 0);
        DUE.is("gives(249, 0) behind cut()", house.gives(249, 0), RankHouse.NONE);
        DUE.is("gives(249, 249) behind cut()", house.gives(249, 249), 17 * house.rank(249) / 20);
    }

    // "What the EDGE from u would give to v in the next STEP".
    private static void givesIsWhatAStepAdds() {
        RankHouse house = Scene.graph(4, 0, 3, 1, 3, 1, 2, 2, 3, 2, 0, 2, 1, 3, 3);
        house.weight(3, 0);
        for (int steps = 0; steps < 5; steps++) {
            long given = 0;
            for (int u = 0; u < 4; u++) {
                given += house.gives(u, 3);
            }
            house.run(1, 0);
            DUE.is("rank(3) behind STEP " + (steps + 1), house.rank(3), given);
        }
    }

    // Promise 20: "NONE without it."
    private static void giverAtTheEnds() {
        RankHouse house = Scene.graph(250, 0, 249, 249, 249, 7, 249, 1, 0);
        DUE.is("giver(249, 0)", house.giver(249, 0), 0);
        DUE.is("giver(249, 1)", house.giver(249, 1), 7);
        DUE.is("giver(249, 2)", house.giver(249, 2), 249);
        DUE.is("giver(249, 3)", house.giver(249, 3), RankHouse.NONE);
        DUE.is("giver(0, 0)", house.giver(0, 0), 1);
        DUE.is("giver(0, 1)", house.giver(0, 1), RankHouse.NONE);
        DUE.is("giver(1, 0) without EDGES to it", house.giver(1, 0), RankHouse.NONE);
        int[] wrong = {-1, 250, Integer.MIN_VALUE, Integer.MAX_VALUE};
        for (int i : wrong) {
            DUE.is("giver(249, " + i + ")", house.giver(249, i), RankHouse.NONE);
            DUE.is("giver(" + i + ", 0)", house.giver(i, 0), RankHouse.NONE);
        }
        RankHouse all = Scene.graph(250);
        for (int u = 249; u >= 0; u--) {
            all.add(u, 9);
        }
        DUE.is("giver(9, 249) of 250", all.giver(9, 249), 249);
        DUE.is("giver(9, 250) of 250", all.giver(9, 250), RankHouse.NONE);
    }

    private static void giverOfLikeOnes() {
        RankHouse house = Scene.graph(5, 4, 0, 2, 0, 0, 0, 2, 1);
        house.damping(0, 1);
        int[] order = {0, 2, 4, RankHouse.NONE};
        for (int k = 0; k < order.length; k++) {
            DUE.is("giver(0, " + k + ") of p = 0", house.giver(0, k), order[k]);
        }
        // RANKS that are not alike, and shares that are: ONE MOD 3 is 1, so NODE 0 has 1 more.
        RankHouse three = Scene.graph(3, 2, 1, 0, 1);
        three.damping(1, LIMIT - 1);
        DUE.is("gives(0, 1)", three.gives(0, 1), 1);
        DUE.is("gives(2, 1)", three.gives(2, 1), 1);
        three.weight(2, 3);
        three.run(1, 0);
        DUE.is("top(0)", three.top(0), 2);
        DUE.is("gives(0, 1)", three.gives(0, 1), 0);
        DUE.is("gives(2, 1)", three.gives(2, 1), 2);
        DUE.is("giver(1, 0)", three.giver(1, 0), 2);
        DUE.is("giver(1, 1)", three.giver(1, 1), 0);
        three.damping(1, LIMIT / 2);
        three.weight(0, 4);
        three.weight(2, 5);
        three.run(1, 0);
        DUE.is("top(0)", three.top(0), 2);
        DUE.is("gives(0, 1)", three.gives(0, 1), three.gives(2, 1));
        DUE.is("giver(1, 0): like shares of unlike RANKS", three.giver(1, 0), 0);
    }

    // By what it gives, not by its RANK: a NODE of many EDGES gives less along each.
    private static void giverByWhatItGives() {
        RankHouse house = Scene.graph(4, 0, 3, 0, 0, 0, 1, 1, 3, 2, 3, 2, 2);
        house.weight(0, 2);
        house.run(1, 0);
        DUE.yes("RANKS", house.rank(0) > house.rank(1));
        int[] order = {1, 2, 0, RankHouse.NONE};
        for (int k = 0; k < order.length; k++) {
            DUE.is("giver(3, " + k + ")", house.giver(3, k), order[k]);
        }
    }
}
