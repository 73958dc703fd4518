/** The sentences of 'Terms' that name a special case, each with a test of its own. */
public final class TermsTest {
    private static final int NONE = Sample.NONE;
    private static final Due due = new Due();

    public static void main(String[] args) {
        edgeToItsOwnBlock();
        edgeBesideAnother();
        backInItsOwnBlock();
        backToBlockNotLeft();
        notBackToBlockLeft();
        searchFollowsAtOnce();
        searchGoesOnAfterComingBack();
        loopOfOneBlock();
        loopDoesNotPassItsHead();
        loopWithEntry();
        depthCountsBackEdges();
        weightIsThatOfSmallerEnd();
        orderOfEqualWeights();
        blockIsJoinedWithItself();
        entryAndExitAreJoined();
        joinedBackwards();
        endStandsInItsEdgesPlace();
        startsStandLast();
        startsStandByNumbers();
        waysDifferFirst();
        linkTreeLeavesOutBackEdges();
        basesOfEntryAndExit();
        basesAgainstLinks();
        incrementBelowZero();
        registerIsTheWaysNumber();
        registerBeginsWithStart();
        stoppedWayDoesNotCount();
        due.end("TermsTest");
    }

    private static void dueBack(SpanningProbes x, int edges, int... back) {
        for (int e = 0; e < edges; e++) {
            boolean want = false;
            for (int b : back) {
                want |= b == e;
            }
            due.same("back(" + e + ")", x.back(e), want);
        }
    }

    private static void dueDepths(SpanningProbes x, int... want) {
        for (int b = 0; b < want.length; b++) {
            due.same("depth(" + b + ")", x.depth(b), want[b]);
        }
    }

    private static void dueInTree(SpanningProbes x, int edges, int... tree) {
        for (int e = 0; e < edges; e++) {
            boolean want = true;
            for (int t : tree) {
                want &= t != e;
            }
            due.same("probe(" + e + ")", x.probe(e), want);
        }
    }

    private static void dueIncrements(SpanningProbes x, int... want) {
        for (int e = 0; e < want.length; e++) {
            due.same("increment(" + e + ")", x.increment(e), want[e]);
        }
    }

    private static void dueWays(SpanningProbes x, int[]... want) {
        for (int w = 0; w < want.length; w++) {
            for (int k = 0; k <= want[w].length; k++) {
                int edge = k < want[w].length ? want[w][k] : NONE;
                due.same("along(" + w + ", " + k + ")", x.along(w, k), edge);
            }
        }
        due.same("no more ways", x.along(want.length, 0), NONE);
    }

    private static void edgeToItsOwnBlock() {
        due.sentence("Terms: each from a block to a block (perhaps the same one)");
        SpanningProbes x = new SpanningProbes(3);
        x.edge(0, 2);
        due.same("edge(2, 2)", x.edge(2, 2), 1);
        x.edge(2, 1);
        due.same("seal()", x.seal(), 4);
        x.start();
        Sample.take(x, 0);
        due.same("take(1)", x.take(1), 2);
        due.same("count(1)", x.count(1), 1);
    }

    private static void edgeBesideAnother() {
        due.sentence("Terms: (.. perhaps beside another one)");
        SpanningProbes x = Sample.graph(3, 0, 2, 2, 1);
        due.same("edge(0, 2) again", x.edge(0, 2), 2);
        due.same("seal()", x.seal(), 2);
        x.start();
        Sample.take(x, 2, 1);
        due.same("count(0)", x.count(0), 0);
        due.same("count(2)", x.count(2), 1);
        due.same("passed(0)", x.passed(0), 0);
        due.same("passed(1)", x.passed(1), 1);
    }

    private static void backInItsOwnBlock() {
        due.sentence("Terms: an edge is BACK if its block is where it leads");
        dueBack(Sample.sealed(3, 0, 2, 2, 2, 2, 1, 2, 2), 4, 1, 3);
    }

    private static void backToBlockNotLeft() {
        due.sentence("Terms: .. or a block from which the search has not come back yet");
        dueBack(Sample.sealed(5, 0, 2, 2, 3, 3, 4, 4, 2, 4, 3, 4, 1), 6, 3, 4);
        due.sentence("Terms: .. also where the edge stands beside one like it");
        dueBack(Sample.sealed(4, 0, 2, 2, 3, 3, 2, 3, 2, 3, 1), 5, 2, 3);
        due.sentence("Terms: .. also where the edge to that block has the greater number");
        dueBack(Sample.sealed(4, 3, 2, 3, 1, 2, 3, 0, 2), 4, 0);
    }

    private static void notBackToBlockLeft() {
        due.sentence("Terms: an edge to a block from which the search has come back is not back");
        dueBack(Sample.sealed(4, 0, 2, 2, 3, 0, 3, 3, 1), 4);
        dueBack(Sample.sealed(4, 0, 2, 0, 3, 2, 1, 3, 2), 4);
        dueBack(Sample.sealed(3, 0, 2, 2, 1, 0, 2), 3);
    }

    private static void searchFollowsAtOnce() {
        due.sentence("Terms: one that leads to a block not met so far is followed at once");
        dueBack(Sample.sealed(4, 0, 2, 0, 3, 2, 3, 3, 2, 3, 1), 5, 3);
        due.sentence("Terms: the edges from it are looked at in the order of their numbers");
        dueBack(Sample.sealed(4, 0, 3, 0, 2, 2, 3, 3, 2, 3, 1), 5, 2);
    }

    private static void searchGoesOnAfterComingBack() {
        due.sentence("Terms: the search goes on at the block after coming back");
        dueBack(Sample.sealed(5, 0, 2, 2, 3, 3, 1, 2, 4, 4, 2, 4, 1), 6, 4);
    }

    private static void loopOfOneBlock() {
        due.sentence("Terms: u itself counts as reached from u, unless it is v");
        dueDepths(Sample.sealed(5, 0, 2, 2, 3, 3, 3, 3, 4, 4, 1), 0, 0, 0, 1, 0);
        dueDepths(Sample.sealed(4, 0, 2, 2, 3, 3, 2, 3, 1), 0, 0, 1, 1);
    }

    private static void loopDoesNotPassItsHead() {
        due.sentence("Terms: none of the blocks passed, the first and the last included, being v");
        // Block 2 reaches block 4 past block 3 alone, and block 5 leads on but not around.
        dueDepths(Sample.sealed(6, 0, 2, 2, 3, 3, 4, 4, 3, 4, 5, 5, 1), 0, 0, 0, 1, 1, 0);
    }

    private static void loopWithEntry() {
        due.sentence("Terms: all blocks from which u can be reached over edges, ENTRY too");
        dueDepths(Sample.sealed(4, 0, 2, 0, 3, 2, 3, 3, 2, 3, 1), 1, 0, 1, 1);
    }

    private static void depthCountsBackEdges() {
        due.sentence("Terms: the DEPTH of a block is the number of back edges whose loop has it");
        dueDepths(Sample.sealed(4, 0, 2, 2, 3, 3, 2, 3, 2, 3, 3, 3, 1), 0, 0, 2, 3);
        due.sentence("Terms: .. the first edge and the last being back");
        dueDepths(Sample.sealed(4, 2, 2, 0, 2, 2, 3, 3, 1, 3, 3), 0, 0, 1, 1);
        due.sentence("Terms: .. as many as there may be");
        SpanningProbes x = new SpanningProbes(3);
        x.edge(0, 2);
        Sample.addMany(x, 2, 2, 12);
        x.edge(2, 1);
        due.same("13 * 13 ways", x.seal(), 169);
        dueDepths(x, 0, 0, 12);
    }

    private static void weightIsThatOfSmallerEnd() {
        due.sentence("Terms: the WEIGHT of an edge is the smaller one of the depths of its two ends");
        // Edges 0 and 1 have one end in the loop, edges 2 and 3 both.
        dueInTree(Sample.sealed(4, 0, 2, 3, 1, 2, 3, 3, 2), 4, 0, 2);
        // Edges 0 and 2 lead into the loop: edge 3 comes first, then 4, 0, 1, 2 and 5.
        dueInTree(Sample.sealed(5, 4, 2, 0, 4, 0, 2, 2, 3, 3, 2, 3, 1), 6, 3, 0, 1);
        // Edges 0 and 2 lead out of the loop: edge 3 comes first, then 4, 0, 1, 2 and 5.
        dueInTree(Sample.sealed(5, 3, 4, 4, 1, 3, 1, 2, 3, 3, 2, 0, 2), 6, 3, 0, 1);
        due.sentence("Terms: the greater weight first");
        // Blocks 2 and 3 are in the loop, 4 is not: edge 3 comes first, then 4, 0, 1 and 2.
        dueInTree(Sample.sealed(5, 0, 4, 4, 2, 3, 1, 3, 2, 2, 3), 5, 3, 0, 1);
    }

    private static void orderOfEqualWeights() {
        due.sentence("Terms: of equal weights the smaller number first");
        dueInTree(Sample.sealed(4, 0, 2, 0, 3, 2, 1, 3, 1), 4, 0, 1);
        dueInTree(Sample.sealed(4, 3, 1, 2, 1, 0, 3, 0, 2), 4, 0, 1);
        dueInTree(Sample.sealed(3, 0, 2, 0, 2, 2, 1), 3, 0);
    }

    private static void blockIsJoinedWithItself() {
        due.sentence("Terms: a block is joined with itself");
        dueInTree(Sample.sealed(3, 2, 2, 0, 2, 2, 1), 3, 1);
    }

    private static void entryAndExitAreJoined() {
        due.sentence("Terms: ENTRY and EXIT are always joined");
        dueInTree(Sample.sealed(2, 0, 1), 1);
        dueInTree(Sample.sealed(3, 0, 1, 0, 2, 2, 1), 3, 1);
        dueInTree(Sample.sealed(3, 2, 1, 0, 2), 2, 0);
    }

    private static void joinedBackwards() {
        due.sentence("Terms: .. go from one to the other over these, forwards or backwards");
        dueInTree(Sample.sealed(5, 0, 2, 0, 3, 2, 4, 3, 4, 4, 1), 5, 0, 1, 2);
    }

    private static void endStandsInItsEdgesPlace() {
        due.sentence("Terms: an END being in its edge's place");
        dueWays(Sample.sealed(3, 0, 2, 2, 1, 2, 2, 2, 1),
            new int[] {-1, 0, 1}, new int[] {-1, 0, 2}, new int[] {-1, 0, 3},
            new int[] {2, 1}, new int[] {2, 2}, new int[] {2, 3});
    }

    private static void startsStandLast() {
        due.sentence("Terms: at ENTRY all STARTs follow after these");
        dueWays(Sample.sealed(3, 2, 2, 0, 2, 2, 1, 0, 1),
            new int[] {-1, 1, 0}, new int[] {-1, 1, 2}, new int[] {-1, 3},
            new int[] {0, 0}, new int[] {0, 2});
    }

    private static void startsStandByNumbers() {
        due.sentence("Terms: (STARTs) in the order of their edges' numbers");
        // The search looks at edge 1 before edge 0.
        dueWays(Sample.sealed(4, 3, 2, 2, 2, 0, 2, 2, 3, 3, 1),
            new int[] {-1, 2, 1}, new int[] {-1, 2, 3, 0}, new int[] {-1, 2, 3, 4},
            new int[] {0, 1}, new int[] {0, 3, 0}, new int[] {0, 3, 4},
            new int[] {1, 1}, new int[] {1, 3, 0}, new int[] {1, 3, 4});
    }

    private static void waysDifferFirst() {
        due.sentence("Terms: of two ways the one whose link stands earlier where they part has the smaller number");
        dueWays(Sample.sealed(4, 3, 1, 2, 1, 2, 3, 0, 3, 0, 2, 0, 1),
            new int[] {-1, 3, 0}, new int[] {-1, 4, 1}, new int[] {-1, 4, 2, 0}, new int[] {-1, 5});
    }

    private static void linkTreeLeavesOutBackEdges() {
        due.sentence("Terms: (the links' order) is that of the edges for those that are not back, then all STARTs");
        // Of the edges 2 and 3 between blocks 2 and 3 the first is back: in the edges' tree, but not
        // in the links'. Values: 0, 0, 0, 0, 1; STARTs 2; bases of blocks 2 and 3 are 0.
        SpanningProbes x = Sample.sealed(4, 0, 2, 3, 1, 3, 2, 2, 3, 0, 1);
        dueInTree(x, 5, 0, 2);
        dueIncrements(x, 0, 0, 1, 0, 2);
        due.same("reset(2)", x.reset(2), 3);
        due.sentence("Terms: .. in the order of weights");
        // Values: 0, 1, 0, 0, 1; edges 3 (weight 1) and 1 are in the links' tree: bases 1 and 1.
        dueIncrements(Sample.sealed(4, 0, 1, 0, 2, 3, 1, 2, 3, 3, 2), 0, 0, 1, 0, 2);
    }

    private static void basesOfEntryAndExit() {
        due.sentence("Terms: BASE is 0 for ENTRY and EXIT");
        SpanningProbes x = Sample.sealed(2, 0, 1, 0, 1, 0, 1);
        dueIncrements(x, 0, 1, 2);
        // Values 0, 1, 0, 0; edges 0 and 1 are in the tree, so block 2 has its base from EXIT: -1.
        dueIncrements(Sample.sealed(4, 2, 3, 2, 1, 3, 1, 0, 2), 0, 0, -1, 1);
    }

    private static void basesAgainstLinks() {
        due.sentence("Terms: along every link of that tree from a to b BASE(b) = BASE(a) + VALUE");
        // Values 0, 0, 1, 1, 0, 0; edges 0, 1 and 2 are in the tree, so the base of block 3 is that
        // of block 2 less 1, and block 4 has the same.
        dueIncrements(Sample.sealed(5, 0, 2, 3, 4, 3, 2, 0, 3, 2, 1, 4, 1), 0, 0, 0, 2, 0, -1);
    }

    private static void incrementBelowZero() {
        due.sentence("Terms: the INCREMENT of a link from a to b is VALUE + BASE(a) - BASE(b)");
        // Values 0, 1, 0, 0; edges 0 and 1 are in the tree, so the base of block 3 is 1.
        SpanningProbes x = Sample.sealed(4, 0, 2, 0, 3, 2, 3, 3, 1);
        dueIncrements(x, 0, 0, -1, 1);
        x.start();
        Sample.take(x, 0, 2);
        due.same("register()", x.register(), -1);
        Sample.take(x, 3);
        due.same("passed(0)", x.passed(0), 1);
        due.same("passed(1)", x.passed(1), 0);
    }

    private static void registerIsTheWaysNumber() {
        due.sentence("Terms: (So its value when a way is completed is the way's number.)");
        SpanningProbes x = Sample.nested();
        int[][] runs = {{0}, {1, 2, 2, 3, 4, 2, 3, 5}, {1, 3, 4, 3, 4, 3, 5}, {1, 3, 5}};
        int[][] ways = {{0}, {1, 4, 5, 7, 6}, {2, 8, 9}, {3}};
        for (int i = 0; i < runs.length; i++) {
            x.clear();
            x.start();
            Sample.take(x, runs[i]);
            for (int w : ways[i]) {
                due.same("run " + i + ": passed(" + w + ")", x.passed(w), 1);
            }
            due.same("run " + i + ": covered(2)", x.covered(2), ways[i].length);
        }
    }

    private static void registerBeginsWithStart() {
        due.sentence("Terms: .. the links passed since the run, or with a START, the present way began (that START's included)");
        SpanningProbes x = Sample.nested();
        x.start();
        due.same("at ENTRY", x.register(), 0);
        Sample.take(x, 1, 3, 4);
        due.same("after edge 4", x.register(), x.reset(4));
        Sample.take(x, 2);
        due.same("after edge 2", x.register(), x.reset(2));
        Sample.take(x, 2);
        due.same("after edge 2 again", x.register(), x.reset(2));
        due.same("reset(2)", x.reset(2), 3);
        due.sentence("Terms: 0 if no run is under way");
        x.stop();
        due.same("stopped", x.register(), 0);
    }

    private static void stoppedWayDoesNotCount() {
        due.sentence("Terms: what it passed so far counts, its way that is not complete does not");
        SpanningProbes x = Sample.nested();
        x.start();
        Sample.take(x, 1, 2, 3);
        due.same("stop()", x.stop(), 3);
        int[] counts = {0, 1, 1, 1, 0, 0};
        for (int e = 0; e < counts.length; e++) {
            due.same("count(" + e + ")", x.count(e), counts[e]);
        }
        due.same("the way that was complete", x.passed(1), 1);
        due.same("no other way", x.covered(2), 1);
    }
}
