/** Promises 15 to 20: each sentence that names a boundary case, with a test of its own. */
public final class CountBoundariesTest {
    private static final int NONE = Sample.NONE;
    private static final Due due = new Due();

    public static void main(String[] args) {
        countFromZero();
        countAtEachStep();
        countNoEdge();
        countVeryMany();
        visitsOfEntry();
        visitsOfPassedEdges();
        visitsNoBlock();
        passedCompleteWays();
        passedNoWay();
        alongFirstLink();
        alongLinks();
        alongNothingThere();
        stoppedRuns();
        stoppedNoBlock();
        coveredBlocks();
        coveredEdges();
        coveredWays();
        coveredRuns();
        coveredNothingElse();
        due.end("CountBoundariesTest");
    }

    private interface Ask {
        long of(int number);
    }

    private static void dueRefused(String call, Ask ask, int many, long want) {
        for (int i : Sample.numbersBeyond(many)) {
            due.same(call + "(" + i + ")", ask.of(i), want);
        }
    }

    private static void dueRow(String call, Ask ask, int... want) {
        for (int i = 0; i < want.length; i++) {
            due.same(call + "(" + i + ")", ask.of(i), want[i]);
        }
    }

    private static SpanningProbes unsealed() {
        return Sample.graph(4, Sample.nestedEnds());
    }

    private static SpanningProbes sealedFull() {
        SpanningProbes x = Sample.full();
        x.seal();
        return x;
    }

    private static void begin(SpanningProbes x, int... edges) {
        x.start();
        Sample.take(x, edges);
    }

    private static void countFromZero() {
        due.sentence("15: how often edge e was passed, never so far");
        dueRow("count", Sample.nested()::count, 0, 0, 0, 0, 0, 0);
        SpanningProbes x = Sample.nested();
        x.start();
        dueRow("at ENTRY, count", x::count, 0, 0, 0, 0, 0, 0);
        x.stop();
        dueRow("stopped there, count", x::count, 0, 0, 0, 0, 0, 0);
    }

    private static void countAtEachStep() {
        due.sentence("15: how often edge e was passed, a run being under way, ended or stopped");
        // Each edge of the tree must be told from the stops and the run alone: none has a probe.
        SpanningProbes chain = Sample.chainOfTwelve();
        int[] want = new int[11];
        for (int runs = 0; runs < 11; runs++) {
            chain.start();
            chain.walk(0, runs);
            for (int e = 0; e < runs; e++) {
                want[e]++;
            }
            dueRow("under way after " + runs + ", count", chain::count, want);
            chain.stop();
            dueRow("stopped after " + runs + ", count", chain::count, want);
        }
        SpanningProbes x = Sample.nested();
        int[] passed = new int[6];
        x.start();
        for (int e : new int[] {1, 2, 2, 3, 4, 2, 3, 4, 3, 5}) {
            Sample.take(x, e);
            passed[e]++;
            dueRow("after edge " + e + ", count", x::count, passed);
        }
        due.sentence("15: .. over edges of the tree against their direction");
        // Edges 0 (3 to EXIT) and 1 (2 to 3) are in the tree.
        SpanningProbes y = Sample.sealed(4, 3, 1, 2, 3, 0, 2, 0, 3);
        begin(y, 2, 1);
        dueRow("in block 3, count", y::count, 0, 1, 1, 0);
        Sample.take(y, 0);
        dueRow("at EXIT, count", y::count, 1, 1, 1, 0);
        begin(y, 3);
        y.stop();
        begin(y, 2);
        dueRow("in block 2, count", y::count, 1, 1, 2, 1);
        due.sentence("15: .. edge 0 having a probe");
        // ENTRY is in the loop of edge 4, so edges 1 and 2 are in the tree and edge 0 comes last.
        SpanningProbes z = Sample.sealed(4, 3, 1, 0, 2, 0, 3, 2, 3, 3, 2);
        due.same("probe(0)", z.probe(0), true);
        begin(z, 2, 0);
        dueRow("count", z::count, 1, 0, 1, 0, 0);
        begin(z, 1, 3, 4);
        dueRow("in block 2, count", z::count, 1, 1, 1, 1, 1);
        due.sentence("15: .. of 24 edges that without a probe");
        SpanningProbes full = sealedFull();
        begin(full, 0, 4, 23);
        begin(full, 0);
        due.same("count(0)", full.count(0), 2);
        dueRow("visits", full::visits, 2, 1, 3);
        due.same("covered(0)", full.covered(0), 3);
        due.same("covered(1)", full.covered(1), 3);
    }

    private static void countNoEdge() {
        due.sentence("15: -1 if there is no such edge");
        SpanningProbes x = Sample.nested();
        Sample.runNested(x);
        dueRefused("count", x::count, 6, -1);
        SpanningProbes full = sealedFull();
        begin(full, 3, 9, 23);
        due.same("count(23)", full.count(23), 1);
        dueRefused("count", full::count, 24, -1);
        due.sentence("15: -1 if the graph is not sealed");
        dueRow("count", unsealed()::count, -1, -1, -1, -1, -1, -1, -1);
    }

    private static void countVeryMany() {
        due.sentence("15 to 17: as often as 512 calls allow");
        SpanningProbes x = Sample.sealed(3, 0, 2, 2, 2, 2, 1);
        begin(x, 0);
        for (int i = 0; i < 490; i++) {
            x.walk(0, 16);
        }
        due.same("count(1)", x.count(1), 7840);
        due.same("count(0)", x.count(0), 1);
        due.same("visits(2)", x.visits(2), 7841);
        due.same("passed(0)", x.passed(0), 1);
        due.same("passed(2)", x.passed(2), 7839);
    }

    private static void visitsOfEntry() {
        due.sentence("16: each beginning of a run counts for ENTRY");
        SpanningProbes x = Sample.nested();
        dueRow("before, visits", x::visits, 0, 0, 0, 0);
        x.start();
        dueRow("begun, visits", x::visits, 1, 0, 0, 0);
        x.start();
        dueRow("refused, visits", x::visits, 1, 0, 0, 0);
        x.stop();
        dueRow("stopped, visits", x::visits, 1, 0, 0, 0);
        x.start();
        dueRow("begun again, visits", x::visits, 2, 0, 0, 0);
    }

    private static void visitsOfPassedEdges() {
        due.sentence("16: each passed edge for the block to which it leads");
        SpanningProbes x = Sample.nested();
        x.start();
        int[][] steps = {{1, 1, 0, 1, 0}, {2, 1, 0, 2, 0}, {2, 1, 0, 3, 0}, {3, 1, 0, 3, 1},
            {4, 1, 0, 4, 1}, {3, 1, 0, 4, 2}, {5, 1, 1, 4, 2}};
        for (int[] step : steps) {
            Sample.take(x, step[0]);
            dueRow("after edge " + step[0] + ", visits", x::visits, step[1], step[2], step[3], step[4]);
        }
        due.sentence("16: .. from ENTRY to EXIT at once");
        SpanningProbes y = Sample.sealed(2, 0, 1);
        begin(y, 0);
        dueRow("visits", y::visits, 1, 1);
    }

    private static void visitsNoBlock() {
        due.sentence("16: -1 if there is no such block");
        SpanningProbes x = Sample.nested();
        Sample.runNested(x);
        dueRefused("visits", x::visits, 4, -1);
        SpanningProbes chain = Sample.chainOfTwelve();
        chain.start();
        chain.walk(0, 16);
        dueRow("visits", chain::visits, 1, 1, 1, 1, 1, 1, 1, 1, 1, 1, 1, 1);
        dueRefused("visits", chain::visits, 12, -1);
        SpanningProbes least = Sample.sealed(2, 0, 1);
        dueRefused("visits", least::visits, 2, -1);
        due.sentence("16: -1 if the graph is not sealed");
        dueRow("visits", unsealed()::visits, -1, -1, -1, -1, -1);
    }

    private static void passedCompleteWays() {
        due.sentence("17: how often way w was completed, never so far");
        SpanningProbes x = Sample.nested();
        dueRow("passed", x::passed, 0, 0, 0, 0, 0, 0, 0, 0, 0, 0);
        due.sentence("17: .. not before it is complete");
        begin(x, 1, 3);
        dueRow("passed", x::passed, 0, 0, 0, 0, 0, 0, 0, 0, 0, 0);
        due.sentence("17: .. by a back edge");
        Sample.take(x, 4);
        dueRow("passed", x::passed, 0, 0, 1, 0, 0, 0, 0, 0, 0, 0);
        due.sentence("17: .. not by a stop right after it");
        x.stop();
        dueRow("passed", x::passed, 0, 0, 1, 0, 0, 0, 0, 0, 0, 0);
        due.sentence("17: .. by an edge to EXIT");
        begin(x, 0);
        dueRow("passed", x::passed, 1, 0, 1, 0, 0, 0, 0, 0, 0, 0);
        due.sentence("17: .. of 200 ways the first and the last");
        SpanningProbes full = sealedFull();
        begin(full, 0, 4);
        due.same("passed(0)", full.passed(0), 1);
        Sample.take(full, 9);
        due.same("passed(85)", full.passed(85), 1);
        Sample.take(full, 23);
        due.same("passed(199)", full.passed(199), 1);
        due.same("covered(2)", full.covered(2), 3);
    }

    private static void passedNoWay() {
        due.sentence("17: -1 if there is no such way");
        SpanningProbes x = Sample.nested();
        Sample.runNested(x);
        dueRefused("passed", x::passed, 10, -1);
        due.same("passed(199)", x.passed(199), -1);
        due.same("passed(200)", x.passed(200), -1);
        SpanningProbes full = sealedFull();
        due.same("of 200 ways: passed(199)", full.passed(199), 0);
        dueRefused("passed", full::passed, 200, -1);
        SpanningProbes least = Sample.sealed(2, 0, 1);
        due.same("of one way: passed(0)", least.passed(0), 0);
        dueRefused("passed", least::passed, 1, -1);
        due.sentence("17: -1 if the graph is not sealed");
        dueRow("passed", unsealed()::passed, -1, -1, -1, -1, -1, -1, -1, -1, -1, -1, -1);
    }

    private static void alongFirstLink() {
        due.sentence("18: k = 0: the number of the back edge whose START is its first link");
        SpanningProbes x = Sample.nested();
        for (int w = 4; w < 10; w++) {
            due.same("along(" + w + ", 0)", x.along(w, 0), w < 7 ? 2 : 4);
        }
        due.same("edge 0 is back", Sample.sealed(3, 2, 2, 0, 2, 2, 1).along(2, 0), 0);
        due.sentence("18: -1 if its first link is no START");
        for (int w = 0; w < 4; w++) {
            due.same("along(" + w + ", 0)", x.along(w, 0), -1);
        }
        due.same("edge 0 is back, along(1, 0)", Sample.sealed(3, 2, 2, 0, 2, 2, 1).along(1, 0), -1);
    }

    private static void alongLinks() {
        due.sentence("18: k = 1, 2, ..: the number of the edge of its first, second, .. link");
        SpanningProbes x = Sample.nested();
        due.same("along(3, 1)", x.along(3, 1), 1);
        due.same("along(3, 2)", x.along(3, 2), 3);
        due.same("along(3, 3)", x.along(3, 3), 5);
        due.sentence("18: a START not being counted");
        due.same("along(6, 1)", x.along(6, 1), 3);
        due.same("along(6, 2)", x.along(6, 2), 5);
        due.sentence("18: (that of the back edge for its END)");
        due.same("along(1, 2)", x.along(1, 2), 2);
        due.same("along(4, 1)", x.along(4, 1), 2);
        due.same("along(8, 2)", x.along(8, 2), 4);
        due.sentence("18: .. of the longest way that there may be");
        SpanningProbes chain = Sample.chainOfTwelve();
        for (int k = 1; k <= 11; k++) {
            due.same("along(0, " + k + ")", chain.along(0, k), k - 1);
        }
        due.same("along(0, 12)", chain.along(0, 12), NONE);
    }

    private static void alongNothingThere() {
        SpanningProbes x = Sample.nested();
        due.sentence("18: NONE if the graph is not sealed");
        SpanningProbes open = unsealed();
        for (int w = 0; w < 10; w++) {
            for (int k = 0; k < 3; k++) {
                due.same("along(" + w + ", " + k + ")", open.along(w, k), NONE);
            }
        }
        due.sentence("18: NONE if there is no such way");
        for (int w : Sample.numbersBeyond(10)) {
            for (int k : new int[] {-1, 0, 1, 2}) {
                due.same("along(" + w + ", " + k + ")", x.along(w, k), NONE);
            }
        }
        due.same("of 200: along(200, 0)", sealedFull().along(200, 0), NONE);
        due.same("of 200: along(200, 1)", sealedFull().along(200, 1), NONE);
        due.sentence("18: NONE if k is negative");
        SpanningProbes y = Sample.nested();
        for (int w = 0; w < 10; w++) {
            for (int k : new int[] {-1, -2, -32, Integer.MIN_VALUE, Integer.MIN_VALUE + 1}) {
                due.same("along(" + w + ", " + k + ")", y.along(w, k), NONE);
            }
        }
        due.sentence("18: NONE if it has fewer than k links that are no START");
        SpanningProbes z = Sample.nested();
        int[] links = {1, 2, 3, 3, 1, 2, 2, 1, 2, 2};
        for (int w = 0; w < 10; w++) {
            due.holds("along(" + w + ", " + links[w] + ")", z.along(w, links[w]) >= 0);
            for (int k : new int[] {1, 2, 10, 32, 64, 1 << 16, Integer.MAX_VALUE - 3}) {
                due.same("along(" + w + ", " + (links[w] + k) + ")", z.along(w, links[w] + k), NONE);
            }
        }
    }

    private static void stoppedRuns() {
        due.sentence("19: how many runs were stopped at block b");
        SpanningProbes x = Sample.nested();
        dueRow("before, stopped", x::stopped, 0, 0, 0, 0);
        x.start();
        dueRow("under way, stopped", x::stopped, 0, 0, 0, 0);
        x.stop();
        dueRow("at ENTRY, stopped", x::stopped, 1, 0, 0, 0);
        x.stop();
        dueRow("refused, stopped", x::stopped, 1, 0, 0, 0);
        for (int i = 0; i < 3; i++) {
            begin(x, 1, 3);
            x.stop();
        }
        dueRow("at block 3, stopped", x::stopped, 1, 0, 0, 3);
        due.sentence("19: a run that ended at EXIT was not stopped");
        Sample.runNested(x);
        x.stop();
        dueRow("stopped", x::stopped, 1, 0, 0, 3);
    }

    private static void stoppedNoBlock() {
        due.sentence("19: -1 if there is no such block");
        SpanningProbes x = Sample.nested();
        dueRefused("stopped", x::stopped, 4, -1);
        SpanningProbes chain = Sample.chainOfTwelve();
        due.same("stopped(11)", chain.stopped(11), 0);
        dueRefused("stopped", chain::stopped, 12, -1);
        due.sentence("19: -1 if the graph is not sealed");
        dueRow("stopped", unsealed()::stopped, -1, -1, -1, -1, -1);
    }

    private static void coveredBlocks() {
        due.sentence("20: what = 0: how many blocks a run was at: none");
        due.same("covered(0)", Sample.nested().covered(0), 0);
        due.sentence("20: what = 0: .. ENTRY alone");
        SpanningProbes x = Sample.nested();
        x.start();
        due.same("under way", x.covered(0), 1);
        x.stop();
        due.same("stopped", x.covered(0), 1);
        due.sentence("20: what = 0: .. all of twelve");
        SpanningProbes chain = Sample.chainOfTwelve();
        for (int n = 0; n <= 11; n++) {
            chain.clear();
            chain.start();
            chain.walk(0, n);
            due.same("after " + n + " edges", chain.covered(0), n + 1);
        }
    }

    private static void coveredEdges() {
        due.sentence("20: 1: how many edges were passed at least once: none");
        SpanningProbes x = Sample.nested();
        x.start();
        due.same("covered(1)", x.covered(1), 0);
        due.sentence("20: 1: .. once or oftener");
        Sample.take(x, 1, 2, 2, 2);
        due.same("covered(1)", x.covered(1), 2);
        due.sentence("20: 1: .. all of 24");
        SpanningProbes y = new SpanningProbes(2);
        Sample.addMany(y, 0, 1, 24);
        y.seal();
        for (int e = 0; e < 24; e++) {
            begin(y, e);
            due.same("after edge " + e, y.covered(1), e + 1);
        }
    }

    /** 200 ways, no more than four edges from a block: 4 * (3 * 4 * 4 + 2). */
    private static SpanningProbes fourEach() {
        SpanningProbes x = new SpanningProbes(6);
        Sample.addMany(x, 0, 2, 4);
        Sample.addMany(x, 2, 3, 3);
        x.edge(2, 5);
        Sample.addMany(x, 3, 4, 4);
        Sample.addMany(x, 4, 1, 4);
        Sample.addMany(x, 5, 1, 2);
        return x;
    }

    private static void coveredWays() {
        due.sentence("20: 2: how many ways were completed at least once: none, one");
        SpanningProbes x = Sample.nested();
        begin(x, 1, 3);
        due.same("not complete", x.covered(2), 0);
        Sample.take(x, 5);
        due.same("complete", x.covered(2), 1);
        begin(x, 1, 3, 5);
        due.same("twice", x.covered(2), 1);
        due.sentence("20: 2: .. all of 200");
        SpanningProbes all = fourEach();
        due.same("seal()", all.seal(), 200);
        for (int way = 0; way < 200; way++) {
            int first = way / 50;
            int rest = way % 50;
            int picks = rest < 48 ? rest / 16 | rest / 4 % 4 << 2 | rest % 4 << 4 : 3 | rest % 2 << 2;
            all.start();
            all.walk(first | picks << 2, 16);
        }
        due.same("covered(2)", all.covered(2), 200);
        due.same("covered(3)", all.covered(3), 200);
        due.same("covered(4)", all.covered(4), 200);
        due.same("covered(1)", all.covered(1), 18);
        due.same("covered(0)", all.covered(0), 6);
        for (int w = 0; w < 200; w += 7) {
            due.same("passed(" + w + ")", all.passed(w), 1);
        }
        due.same("passed(199)", all.passed(199), 1);
    }

    private static void coveredRuns() {
        due.sentence("20: 3: how many runs began");
        SpanningProbes x = Sample.nested();
        due.same("none", x.covered(3), 0);
        x.start();
        due.same("under way", x.covered(3), 1);
        x.start();
        due.same("refused", x.covered(3), 1);
        x.stop();
        due.same("stopped", x.covered(3), 1);
        begin(x, 0);
        due.same("ended", x.covered(3), 2);
        due.sentence("20: 4: how many ended at EXIT");
        SpanningProbes y = Sample.nested();
        due.same("none", y.covered(4), 0);
        begin(y, 1, 2);
        due.same("a way complete, the run under way", y.covered(4), 0);
        y.stop();
        due.same("stopped", y.covered(4), 0);
        begin(y, 0);
        due.same("over edge 0", y.covered(4), 1);
        begin(y, 1, 3, 5);
        due.same("over edge 5", y.covered(4), 2);
    }

    private static void coveredNothingElse() {
        due.sentence("20: -1 if what is something else");
        SpanningProbes x = Sample.nested();
        Sample.runNested(x);
        dueRefused("covered", x::covered, 5, -1);
        due.sentence("20: -1 if the graph is not sealed");
        SpanningProbes open = unsealed();
        dueRow("covered", open::covered, -1, -1, -1, -1, -1, -1);
        open.seal();
        dueRow("sealed, covered", open::covered, 0, 0, 0, 0, 0, -1);
    }
}
