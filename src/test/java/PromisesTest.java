/** One method or more a promise of the document, with answers found by hand. */
public final class PromisesTest {
    private static final int NONE = Integer.MIN_VALUE;
    private static final Due due = new Due();

    public static void main(String[] args) {
        newObject();
        edge();
        edgeOnFullGraph();
        sealAnswers();
        sealLimit();
        sealAfterRefusal();
        back();
        backFollowsOrderOfNumbers();
        depth();
        depthOfLoopWithTwoWaysIn();
        probe();
        probeFollowsWeight();
        increment();
        incrementFollowsWeight();
        incrementWithBasesFoundBackwards();
        firstEdgeIsBack();
        reset();
        start();
        take();
        walk();
        walkPicks();
        stop();
        at();
        register();
        count();
        visits();
        passed();
        along();
        stopped();
        covered();
        clear();
        clearBeforeSeal();
        notSealed();
        due.end("PromisesTest");
    }

    private static void newObject() {
        due.same("1: NONE", SpanningProbes.NONE, NONE);
        int[] asked = {Integer.MIN_VALUE, -1, 0, 1, 2, 3, 7, 11, 12, 13, 100, Integer.MAX_VALUE};
        int[] blocks = {2, 2, 2, 2, 2, 3, 7, 11, 12, 12, 12, 12};
        for (int i = 0; i < asked.length; i++) {
            SpanningProbes x = new SpanningProbes(asked[i]);
            due.same("1: not sealed, depth(0)", x.depth(0), -1);
            due.same("1: last block of " + asked[i], x.edge(0, blocks[i] - 1), 0);
            due.same("1: no block of " + asked[i], x.edge(0, blocks[i]), -1);
        }
    }

    private static void edge() {
        SpanningProbes x = new SpanningProbes(4);
        due.same("2: edge(0, 2)", x.edge(0, 2), 0);
        due.same("2: edge(0, 2) again", x.edge(0, 2), 1);
        due.same("2: edge(2, 2)", x.edge(2, 2), 2);
        due.same("2: edge(0, 0)", x.edge(0, 0), -1);
        due.same("2: edge(1, 1)", x.edge(1, 1), -1);
        due.same("2: edge(1, 2)", x.edge(1, 2), -1);
        due.same("2: edge(2, 0)", x.edge(2, 0), -1);
        due.same("2: edge(-1, 2)", x.edge(-1, 2), -1);
        due.same("2: edge(4, 2)", x.edge(4, 2), -1);
        due.same("2: edge(2, -1)", x.edge(2, -1), -1);
        due.same("2: edge(2, 4)", x.edge(2, 4), -1);
        due.same("2: edge(MIN, MAX)", x.edge(Integer.MIN_VALUE, Integer.MAX_VALUE), -1);
        due.same("2: edge(2, 3)", x.edge(2, 3), 3);
        due.same("2: edge(3, 1)", x.edge(3, 1), 4);
        due.holds("2: seal()", x.seal() > 0);
        due.same("2: edge on a sealed graph", x.edge(0, 3), -1);
    }

    private static void edgeOnFullGraph() {
        SpanningProbes x = new SpanningProbes(2);
        for (int e = 0; e < 24; e++) {
            due.same("2: edge " + e, x.edge(0, 1), e);
        }
        due.same("2: edge 24", x.edge(0, 1), -2);
        due.same("2: edge 24 that is none", x.edge(1, 0), -1);
        due.same("2: edge 24 to no block", x.edge(0, 2), -1);
        due.same("2: 24 ways", x.seal(), 24);
        due.same("2: full and sealed", x.edge(0, 1), -1);
    }

    private static void sealAnswers() {
        SpanningProbes x = new SpanningProbes(2);
        due.same("3: seal without edges", x.seal(), -2);
        x.edge(0, 1);
        due.same("3: seal one edge", x.seal(), 1);
        due.same("3: seal twice", x.seal(), -1);
        due.same("3: block 3 not reached", Sample.graph(4, 0, 2, 2, 1, 3, 1).seal(), -2);
        due.same("3: EXIT not reached from 3", Sample.graph(4, 0, 2, 2, 1, 2, 3, 3, 3).seal(), -2);
        due.same("3: EXIT not reached at all", Sample.graph(3, 0, 2, 2, 2).seal(), -2);
        due.same("3: ENTRY apart", Sample.graph(3, 2, 1).seal(), -2);
        due.same("3: ways of a diamond", Sample.graph(4, 0, 2, 0, 3, 2, 1, 3, 1).seal(), 2);
        due.same("3: ways with loops", Sample.graph(4, 0, 1, 0, 2, 2, 2, 2, 3, 3, 2, 3, 1).seal(), 10);
    }

    private static void sealLimit() {
        SpanningProbes x = new SpanningProbes(4);
        Sample.addMany(x, 0, 2, 5);
        Sample.addMany(x, 2, 3, 5);
        Sample.addMany(x, 3, 1, 8);
        due.same("3: 200 ways", x.seal(), 200);
        due.same("3: way 199", x.along(199, 3), 17);
        due.same("3: no way 200", x.passed(200), -1);
        x.start();
        x.take(4);
        x.take(9);
        x.take(17);
        due.same("3: way 199 was passed", x.passed(199), 1);

        SpanningProbes y = new SpanningProbes(4);
        Sample.addMany(y, 0, 2, 5);
        Sample.addMany(y, 2, 3, 5);
        Sample.addMany(y, 3, 1, 8);
        y.edge(0, 1);
        due.same("3: 201 ways", y.seal(), -3);
        due.same("3: 201 ways, again", y.seal(), -3);
        due.same("3: not sealed then", y.start(), false);
        due.same("3: no depth then", y.depth(0), -1);
        due.same("3: edges can be added", y.edge(3, 2), 19);

        SpanningProbes z = new SpanningProbes(5);
        Sample.addMany(z, 0, 2, 8);
        Sample.addMany(z, 2, 3, 8);
        Sample.addMany(z, 3, 1, 8);
        due.same("3: -2 goes before -3", z.seal(), -2);
    }

    private static void sealAfterRefusal() {
        SpanningProbes x = Sample.graph(4, 0, 2, 2, 3, 3, 2);
        due.same("3: EXIT is not reached", x.seal(), -2);
        due.same("3: nothing is back then", x.back(2), false);
        due.same("3: more edges", x.edge(3, 1), 3);
        due.same("3: sealed at last", x.seal(), 4);
        due.same("3: back after refusal", x.back(2), true);
        due.same("3: depth after refusal", x.depth(3), 1);
    }

    private static void back() {
        SpanningProbes x = Sample.nested();
        boolean[] want = {false, false, true, false, true, false};
        for (int e = 0; e < want.length; e++) {
            due.same("4: back(" + e + ")", x.back(e), want[e]);
        }
        due.same("4: back(-1)", x.back(-1), false);
        due.same("4: back(6)", x.back(6), false);
        due.same("4: back(MAX)", x.back(Integer.MAX_VALUE), false);
        due.same("4: not sealed", Sample.graph(3, 0, 2, 2, 2, 2, 1).back(1), false);
    }

    private static void backFollowsOrderOfNumbers() {
        SpanningProbes x = Sample.sealed(4, 0, 2, 0, 3, 2, 3, 3, 2, 3, 1);
        due.same("4: 2 before 3, edge 2", x.back(2), false);
        due.same("4: 2 before 3, edge 3", x.back(3), true);
        SpanningProbes y = Sample.sealed(4, 0, 3, 0, 2, 2, 3, 3, 2, 3, 1);
        due.same("4: 3 before 2, edge 2", y.back(2), true);
        due.same("4: 3 before 2, edge 3", y.back(3), false);
        SpanningProbes z = Sample.sealed(4, 0, 2, 2, 3, 0, 3, 3, 1);
        due.same("4: to a block that the search has left", z.back(2), false);
    }

    private static void depth() {
        SpanningProbes x = Sample.nested();
        int[] want = {0, 0, 2, 1};
        for (int b = 0; b < want.length; b++) {
            due.same("5: depth(" + b + ")", x.depth(b), want[b]);
        }
        due.same("5: depth(-1)", x.depth(-1), -1);
        due.same("5: depth(4)", x.depth(4), -1);
        due.same("5: not sealed", Sample.graph(3, 0, 2, 2, 1).depth(2), -1);
        SpanningProbes y = Sample.sealed(3, 0, 2, 2, 2, 2, 2, 2, 1);
        due.same("5: two back edges beside one another", y.depth(2), 2);
    }

    private static void depthOfLoopWithTwoWaysIn() {
        // Block 3 can be reached from ENTRY past block 2, so ENTRY is in the loop of edge 3.
        SpanningProbes x = Sample.sealed(4, 0, 2, 0, 3, 2, 3, 3, 2, 3, 1);
        int[] want = {1, 0, 1, 1};
        for (int b = 0; b < want.length; b++) {
            due.same("5: two ways in, depth(" + b + ")", x.depth(b), want[b]);
        }
    }

    private static void probe() {
        SpanningProbes x = Sample.nested();
        boolean[] want = {true, false, true, false, true, true};
        for (int e = 0; e < want.length; e++) {
            due.same("6: probe(" + e + ")", x.probe(e), want[e]);
        }
        due.same("6: probe(-1)", x.probe(-1), false);
        due.same("6: probe(6)", x.probe(6), false);
        due.same("6: not sealed", Sample.graph(2, 0, 1).probe(0), false);
        due.same("6: ENTRY and EXIT are joined", Sample.sealed(2, 0, 1).probe(0), true);
        SpanningProbes diamond = Sample.sealed(4, 0, 2, 0, 3, 2, 1, 3, 1);
        for (int e = 0; e < 4; e++) {
            due.same("6: smaller number first, probe(" + e + ")", diamond.probe(e), e >= 2);
        }
    }

    private static void probeFollowsWeight() {
        SpanningProbes x = Sample.sealed(4, 0, 2, 3, 1, 2, 3, 3, 2);
        boolean[] want = {false, true, false, true};
        for (int e = 0; e < want.length; e++) {
            due.same("6: greater weight first, probe(" + e + ")", x.probe(e), want[e]);
        }
    }

    private static void increment() {
        SpanningProbes x = Sample.nested();
        int[] want = {0, 0, 1, 0, 2, 3};
        for (int e = 0; e < want.length; e++) {
            due.same("7: increment(" + e + ")", x.increment(e), want[e]);
        }
        due.same("7: increment(-1)", x.increment(-1), NONE);
        due.same("7: increment(6)", x.increment(6), NONE);
        due.same("7: not sealed", Sample.graph(2, 0, 1).increment(0), NONE);
        // Values 0, 1, 2, 0, 0; edges 1 and 3 are in the tree, so the bases of blocks 2 and 3 are 1.
        SpanningProbes y = Sample.sealed(4, 0, 1, 0, 2, 0, 2, 2, 3, 3, 1);
        int[] wantBeside = {0, 0, 1, 0, 1};
        for (int e = 0; e < wantBeside.length; e++) {
            due.same("7: edges beside one another, increment(" + e + ")", y.increment(e), wantBeside[e]);
        }
        // Values 0, 1, 0, 0; edges 0 and 1 are in the tree, so the base of block 3 is 1.
        SpanningProbes z = Sample.sealed(4, 0, 2, 0, 3, 2, 3, 3, 1);
        int[] wantNegative = {0, 0, -1, 1};
        for (int e = 0; e < wantNegative.length; e++) {
            due.same("7: less than 0, increment(" + e + ")", z.increment(e), wantNegative[e]);
        }
        z.start();
        z.take(0);
        z.take(2);
        due.same("14: less than 0", z.register(), -1);
        z.take(3);
        due.same("17: passed(0) from less than 0", z.passed(0), 1);
    }

    private static void incrementWithBasesFoundBackwards() {
        // Values 0, 0, 1, 1, 0, 0; edges 0, 1 and 2 are in the tree, so the base of block 3 is that
        // of block 2 less 1, and block 4 has the same.
        SpanningProbes x = Sample.sealed(5, 0, 2, 3, 4, 3, 2, 0, 3, 2, 1, 4, 1);
        int[] want = {0, 0, 0, 2, 0, -1};
        for (int e = 0; e < want.length; e++) {
            due.same("7: backwards, increment(" + e + ")", x.increment(e), want[e]);
        }
    }

    private static void firstEdgeIsBack() {
        SpanningProbes x = Sample.sealed(3, 2, 2, 0, 2, 2, 1);
        due.same("4: back(0)", x.back(0), true);
        due.same("5: edge 0 is back, depth(2)", x.depth(2), 1);
        due.same("8: reset(0)", x.reset(0), 2);
        int[][] want = {{-1, 1, 0}, {-1, 1, 2}, {0, 0, NONE}, {0, 2, NONE}};
        for (int w = 0; w < want.length; w++) {
            for (int k = 0; k < 3; k++) {
                due.same("18: edge 0 is back, along(" + w + ", " + k + ")", x.along(w, k), want[w][k]);
            }
        }
    }

    private static void incrementFollowsWeight() {
        SpanningProbes x = Sample.sealed(4, 0, 1, 0, 2, 3, 1, 2, 3, 3, 2);
        int[] want = {0, 0, 1, 0, 2};
        for (int e = 0; e < want.length; e++) {
            due.same("7: greater weight first, increment(" + e + ")", x.increment(e), want[e]);
        }
        due.same("8: greater weight first, reset(4)", x.reset(4), 2);
    }

    private static void reset() {
        SpanningProbes x = Sample.nested();
        int[] want = {NONE, NONE, 3, NONE, 6, NONE};
        for (int e = 0; e < want.length; e++) {
            due.same("8: reset(" + e + ")", x.reset(e), want[e]);
        }
        due.same("8: reset(-1)", x.reset(-1), NONE);
        due.same("8: reset(6)", x.reset(6), NONE);
        due.same("8: not sealed", Sample.graph(3, 0, 2, 2, 2, 2, 1).reset(1), NONE);
    }

    private static void start() {
        SpanningProbes x = Sample.graph(3, 0, 2, 2, 1);
        due.same("9: not sealed", x.start(), false);
        due.same("9: at() then", x.at(), -1);
        x.seal();
        due.same("9: covered(3) before", x.covered(3), 0);
        due.same("9: start()", x.start(), true);
        due.same("9: at()", x.at(), 0);
        due.same("9: visits(0)", x.visits(0), 1);
        x.take(0);
        due.same("9: under way", x.start(), false);
        due.same("9: at() is as before", x.at(), 2);
        due.same("9: visits(0) is as before", x.visits(0), 1);
        x.take(1);
        due.same("9: after the end", x.start(), true);
        x.stop();
        due.same("9: after a stop", x.start(), true);
        due.same("9: covered(3)", x.covered(3), 3);
    }

    private static void take() {
        SpanningProbes x = Sample.nested();
        due.same("10: no run", x.take(0), -1);
        x.start();
        due.same("10: from another block", x.take(3), -1);
        due.same("10: no edge -1", x.take(-1), -1);
        due.same("10: no edge 6", x.take(6), -1);
        due.same("10: at() is as before", x.at(), 0);
        due.same("10: count(3) is as before", x.count(3), 0);
        due.same("10: take(1)", x.take(1), 2);
        due.same("10: take(2), to itself", x.take(2), 2);
        due.same("10: take(3)", x.take(3), 3);
        due.same("10: take(4), back", x.take(4), 2);
        due.same("10: take(3) again", x.take(3), 3);
        due.same("10: take(5), to EXIT", x.take(5), 1);
        due.same("10: the run has ended", x.at(), -1);
        due.same("10: take after the end", x.take(5), -1);
        due.same("10: not sealed", Sample.graph(2, 0, 1).take(0), -1);
    }

    private static void walk() {
        SpanningProbes x = Sample.nested();
        due.same("11: no run", x.walk(0, 1), -1);
        x.start();
        due.same("11: n = -1", x.walk(1, -1), -1);
        due.same("11: n = 17", x.walk(1, 17), -1);
        due.same("11: n = MIN", x.walk(1, Integer.MIN_VALUE), -1);
        due.same("11: nothing changed", x.at(), 0);
        due.same("11: n = 0", x.walk(1, 0), 0);
        due.same("11: still at ENTRY", x.at(), 0);
        // Places 1 0 1 0 1 1: edges 1 2 3 4 3 5.
        due.same("11: to the end", x.walk(1 | 1 << 4 | 1 << 8 | 1 << 10, 16), 6);
        due.same("11: the run has ended", x.at(), -1);
        due.same("11: way 1", x.passed(1), 1);
        due.same("11: way 5", x.passed(5), 1);
        due.same("11: way 9", x.passed(9), 1);
        x.start();
        due.same("11: sixteen edges", x.walk(1, 16), 16);
        due.same("11: fifteen of them to itself", x.count(2), 16);
        due.same("11: not at the end", x.at(), 2);
        due.same("11: not sealed", Sample.graph(2, 0, 1).walk(0, 1), -1);
    }

    private static void walkPicks() {
        SpanningProbes x = Sample.sealed(4, 2, 1, 0, 2, 2, 2, 0, 3, 3, 2, 2, 3, 0, 1);
        int[] first = {1, 3, 6, 1};
        for (int place = 0; place < 4; place++) {
            x.clear();
            x.start();
            due.same("11: one edge", x.walk(place | 0xFFFFFF00, 1), 1);
            due.same("11: place " + place + " of three", x.count(first[place]), 1);
        }
        x.clear();
        x.start();
        // From block 2 place 3 of three is edge 0; from block 3 there is but one edge.
        due.same("11: negative picks", x.walk(-1 << 4 | 1, 16), 3);
        due.same("11: edge 3", x.count(3), 1);
        due.same("11: edge 4", x.count(4), 1);
        due.same("11: edge 0", x.count(0), 1);
        SpanningProbes y = Sample.sealed(2, 0, 1, 0, 1, 0, 1, 0, 1, 0, 1);
        for (int place = 0; place < 4; place++) {
            y.start();
            y.walk(place, 16);
            due.same("11: place " + place + " of five", y.count(place), 1);
        }
        due.same("11: place 4 of five", y.count(4), 0);
    }

    private static void stop() {
        SpanningProbes x = Sample.nested();
        due.same("12: no run", x.stop(), -1);
        x.start();
        due.same("12: at ENTRY", x.stop(), 0);
        due.same("12: stopped already", x.stop(), -1);
        x.start();
        x.take(1);
        x.take(3);
        due.same("12: at block 3", x.stop(), 3);
        due.same("12: at()", x.at(), -1);
        due.same("12: what was passed counts", x.count(3), 1);
        due.same("12: its way does not", x.covered(2), 0);
        x.start();
        x.take(0);
        due.same("12: after the end", x.stop(), -1);
        due.same("12: not sealed", Sample.graph(2, 0, 1).stop(), -1);
    }

    private static void at() {
        SpanningProbes x = Sample.nested();
        due.same("13: no run", x.at(), -1);
        x.start();
        due.same("13: ENTRY", x.at(), 0);
        x.take(1);
        due.same("13: block 2", x.at(), 2);
        x.take(3);
        due.same("13: block 3", x.at(), 3);
        x.take(5);
        due.same("13: after EXIT", x.at(), -1);
        due.same("13: not sealed", new SpanningProbes(2).at(), -1);
    }

    private static void register() {
        SpanningProbes x = Sample.nested();
        due.same("14: no run", x.register(), 0);
        x.start();
        int[] edges = {1, 2, 3, 4, 3};
        int[] want = {0, 3, 3, 6, 6};
        for (int i = 0; i < edges.length; i++) {
            x.take(edges[i]);
            due.same("14: after edge " + edges[i], x.register(), want[i]);
        }
        x.take(0);
        due.same("14: after an edge from elsewhere", x.register(), 6);
        x.take(5);
        due.same("14: after EXIT", x.register(), 0);
        x.start();
        due.same("14: the next run", x.register(), 0);
        x.take(1);
        x.take(2);
        x.stop();
        due.same("14: after a stop", x.register(), 0);
        x.start();
        due.same("14: the run after a stop", x.register(), 0);
        x.take(1);
        x.take(2);
        x.clear();
        due.same("14: after clear", x.register(), 0);
        due.same("14: not sealed", new SpanningProbes(2).register(), 0);
    }

    private static void dueRow(String call, int[] got, int... want) {
        for (int i = 0; i < want.length; i++) {
            due.same(call + "(" + i + ")", got[i], want[i]);
        }
    }

    private static int[] counts(SpanningProbes x, int many) {
        int[] row = new int[many];
        for (int e = 0; e < many; e++) {
            row[e] = x.count(e);
        }
        return row;
    }

    private static int[] visited(SpanningProbes x, int many) {
        int[] row = new int[many];
        for (int b = 0; b < many; b++) {
            row[b] = x.visits(b);
        }
        return row;
    }

    private static void count() {
        SpanningProbes x = Sample.nested();
        dueRow("15: before, count", counts(x, 6), 0, 0, 0, 0, 0, 0);
        Sample.runNested(x);
        dueRow("15: after a run, count", counts(x, 6), 0, 1, 1, 2, 1, 1);
        x.start();
        x.take(1);
        dueRow("15: under way in block 2, count", counts(x, 6), 0, 2, 1, 2, 1, 1);
        x.take(3);
        dueRow("15: under way in block 3, count", counts(x, 6), 0, 2, 1, 3, 1, 1);
        x.stop();
        dueRow("15: stopped, count", counts(x, 6), 0, 2, 1, 3, 1, 1);
        x.start();
        x.take(0);
        dueRow("15: three runs, count", counts(x, 6), 1, 2, 1, 3, 1, 1);
        due.same("15: count(-1)", x.count(-1), -1);
        due.same("15: count(6)", x.count(6), -1);
        due.same("15: not sealed", Sample.graph(2, 0, 1).count(0), -1);
    }

    private static void visits() {
        SpanningProbes x = Sample.nested();
        dueRow("16: before, visits", visited(x, 4), 0, 0, 0, 0);
        Sample.runNested(x);
        dueRow("16: after a run, visits", visited(x, 4), 1, 1, 3, 2);
        x.start();
        dueRow("16: at ENTRY, visits", visited(x, 4), 2, 1, 3, 2);
        x.take(1);
        dueRow("16: at block 2, visits", visited(x, 4), 2, 1, 4, 2);
        x.stop();
        dueRow("16: stopped, visits", visited(x, 4), 2, 1, 4, 2);
        due.same("16: visits(-1)", x.visits(-1), -1);
        due.same("16: visits(4)", x.visits(4), -1);
        due.same("16: not sealed", Sample.graph(2, 0, 1).visits(0), -1);
    }

    private static void passed() {
        SpanningProbes x = Sample.nested();
        Sample.runNested(x);
        x.start();
        x.take(0);
        x.start();
        x.take(1);
        x.take(2);
        x.take(3);
        x.stop();
        int[] want = {1, 2, 0, 0, 0, 1, 0, 0, 0, 1};
        for (int w = 0; w < want.length; w++) {
            due.same("17: passed(" + w + ")", x.passed(w), want[w]);
        }
        due.same("17: passed(-1)", x.passed(-1), -1);
        due.same("17: passed(10)", x.passed(10), -1);
        due.same("17: passed(MAX)", x.passed(Integer.MAX_VALUE), -1);
        due.same("17: not sealed", Sample.graph(2, 0, 1).passed(0), -1);
    }

    private static void along() {
        SpanningProbes x = Sample.nested();
        int[][] want = {
            {-1, 0}, {-1, 1, 2}, {-1, 1, 3, 4}, {-1, 1, 3, 5}, {2, 2},
            {2, 3, 4}, {2, 3, 5}, {4, 2}, {4, 3, 4}, {4, 3, 5},
        };
        for (int w = 0; w < want.length; w++) {
            for (int k = 0; k < 6; k++) {
                int edge = k < want[w].length ? want[w][k] : NONE;
                due.same("18: along(" + w + ", " + k + ")", x.along(w, k), edge);
            }
            due.same("18: along(" + w + ", -1)", x.along(w, -1), NONE);
            due.same("18: along(" + w + ", MAX)", x.along(w, Integer.MAX_VALUE), NONE);
        }
        due.same("18: along(-1, 0)", x.along(-1, 0), NONE);
        due.same("18: along(10, 0)", x.along(10, 0), NONE);
        due.same("18: not sealed", Sample.graph(2, 0, 1).along(0, 1), NONE);
        int[] chain = {0, 2, 2, 3, 3, 4, 4, 5, 5, 6, 6, 7, 7, 8, 8, 9, 9, 10, 10, 11, 11, 1};
        SpanningProbes y = Sample.sealed(12, chain);
        due.same("18: the last of eleven links", y.along(0, 11), 10);
        due.same("18: no twelfth link", y.along(0, 12), NONE);
    }

    private static void stopped() {
        SpanningProbes x = Sample.nested();
        x.start();
        x.stop();
        for (int i = 0; i < 2; i++) {
            x.start();
            x.take(1);
            x.take(3);
            x.stop();
        }
        Sample.runNested(x);
        int[] want = {1, 0, 0, 2};
        for (int b = 0; b < want.length; b++) {
            due.same("19: stopped(" + b + ")", x.stopped(b), want[b]);
        }
        due.same("19: stopped(-1)", x.stopped(-1), -1);
        due.same("19: stopped(4)", x.stopped(4), -1);
        due.same("19: not sealed", Sample.graph(2, 0, 1).stopped(0), -1);
    }

    private static void dueCovered(String when, SpanningProbes x, int... want) {
        for (int what = 0; what < want.length; what++) {
            due.same("20: " + when + ", covered(" + what + ")", x.covered(what), want[what]);
        }
    }

    private static void covered() {
        SpanningProbes x = Sample.nested();
        dueCovered("before", x, 0, 0, 0, 0, 0);
        x.start();
        dueCovered("at ENTRY", x, 1, 0, 0, 1, 0);
        x.take(1);
        dueCovered("at block 2", x, 2, 1, 0, 1, 0);
        x.take(2);
        dueCovered("a way complete", x, 2, 2, 1, 1, 0);
        x.stop();
        dueCovered("stopped", x, 2, 2, 1, 1, 0);
        Sample.runNested(x);
        dueCovered("a run to EXIT", x, 4, 5, 3, 2, 1);
        x.start();
        x.take(0);
        x.start();
        x.take(0);
        dueCovered("four runs", x, 4, 6, 4, 4, 3);
        due.same("20: covered(-1)", x.covered(-1), -1);
        due.same("20: covered(5)", x.covered(5), -1);
        for (int what = -1; what < 6; what++) {
            due.same("20: not sealed", Sample.graph(2, 0, 1).covered(what), -1);
        }
    }

    private static void clear() {
        SpanningProbes x = Sample.nested();
        Sample.runNested(x);
        x.start();
        x.take(1);
        x.stop();
        x.start();
        x.take(1);
        x.take(3);
        x.clear();
        due.same("21: the run has ended", x.at(), -1);
        dueCovered("21: cleared", x, 0, 0, 0, 0, 0);
        dueRow("21: count", counts(x, 6), 0, 0, 0, 0, 0, 0);
        dueRow("21: visits", visited(x, 4), 0, 0, 0, 0);
        for (int b = 0; b < 4; b++) {
            due.same("21: stopped(" + b + ")", x.stopped(b), 0);
        }
        for (int w = 0; w < 10; w++) {
            due.same("21: passed(" + w + ")", x.passed(w), 0);
        }
        due.same("21: still sealed", x.seal(), -1);
        due.same("21: increments stay", x.increment(5), 3);
        Sample.runNested(x);
        dueRow("21: a run after it, count", counts(x, 6), 0, 1, 1, 2, 1, 1);
        due.same("21: a run after it, passed(9)", x.passed(9), 1);
    }

    private static void clearBeforeSeal() {
        SpanningProbes x = Sample.graph(3, 0, 2);
        x.clear();
        due.same("21: edges stay", x.edge(2, 1), 1);
        due.same("21: it can be sealed", x.seal(), 1);
    }

    private static void notSealed() {
        SpanningProbes x = Sample.graph(3, 0, 2, 2, 2, 2, 1);
        for (int i = -2; i < 5; i++) {
            due.same("not sealed: back", x.back(i), false);
            due.same("not sealed: depth", x.depth(i), -1);
            due.same("not sealed: probe", x.probe(i), false);
            due.same("not sealed: increment", x.increment(i), NONE);
            due.same("not sealed: reset", x.reset(i), NONE);
            due.same("not sealed: count", x.count(i), -1);
            due.same("not sealed: visits", x.visits(i), -1);
            due.same("not sealed: passed", x.passed(i), -1);
            due.same("not sealed: along", x.along(i, 0), NONE);
            due.same("not sealed: stopped", x.stopped(i), -1);
            due.same("not sealed: covered", x.covered(i), -1);
        }
    }
}
