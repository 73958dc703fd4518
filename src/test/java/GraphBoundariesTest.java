/** Promises 1 to 8: each sentence that names a boundary case, with a test of its own. */
public final class GraphBoundariesTest {
    private static final int NONE = Sample.NONE;
    private static final Due due = new Due();

    public static void main(String[] args) {
        newObject();
        newObjectIsEmpty();
        edgeNumbers();
        edgeWithoutBlock();
        edgeOfExitAndEntry();
        edgeOnSealedGraph();
        edgeOnFullGraph();
        edgeRefusedAddsNothing();
        sealAnswersWays();
        sealTwice();
        sealUnreachedBlock();
        sealBlockWithoutExit();
        sealLimitOfWays();
        sealLimitWithLoops();
        sealManyWays();
        sealOrderOfRefusals();
        notSealedAfterMinusTwo();
        notSealedAfterMinusThree();
        back();
        depth();
        probe();
        increment();
        reset();
        due.end("GraphBoundariesTest");
    }

    /** Tells which blocks there are: edges from and to block many - 1 are taken, those of block many not. */
    private static void dueBlocks(int asked, int many) {
        String call = "SpanningProbes(" + asked + "): ";
        SpanningProbes x = new SpanningProbes(asked);
        due.same(call + "edge(0, " + (many - 1) + ")", x.edge(0, many - 1), 0);
        due.same(call + "edge(0, " + many + ")", x.edge(0, many), -1);
        due.same(call + "edge(" + many + ", 1)", x.edge(many, 1), -1);
        for (int b = 2; b < many; b++) {
            x.edge(0, b);
            x.edge(b, 1);
        }
        due.holds(call + "seal()", x.seal() > 0);
        due.same(call + "depth(" + (many - 1) + ")", x.depth(many - 1), 0);
        due.same(call + "depth(" + many + ")", x.depth(many), -1);
    }

    private static void newObject() {
        due.sentence("1: a graph of n blocks");
        for (int n = 2; n <= 12; n++) {
            dueBlocks(n, n);
        }
        due.sentence("1: 2 blocks if n is less than 2");
        for (int n : new int[] {1, 0, -1, -2, -12, Integer.MIN_VALUE + 5, Integer.MIN_VALUE}) {
            dueBlocks(n, 2);
        }
        due.sentence("1: 12 if it is greater than 12");
        for (int n : new int[] {13, 14, 24, 32, 1 << 16, Integer.MAX_VALUE - 1, Integer.MAX_VALUE}) {
            dueBlocks(n, 12);
        }
    }

    private static void newObjectIsEmpty() {
        due.sentence("1: without edges");
        for (int n : new int[] {Integer.MIN_VALUE, 2, 7, 12, Integer.MAX_VALUE}) {
            SpanningProbes x = new SpanningProbes(n);
            due.same("seal()", x.seal(), -2);
            due.same("edge(0, 1)", x.edge(0, 1), 0);
        }
        due.sentence("1: not sealed");
        SpanningProbes y = new SpanningProbes(2);
        due.same("depth(0)", y.depth(0), -1);
        due.same("covered(0)", y.covered(0), -1);
        due.same("start()", y.start(), false);
        due.same("at()", y.at(), -1);
        due.same("register()", y.register(), 0);
    }

    private static void edgeNumbers() {
        due.sentence("2: adds an edge; answers its number");
        SpanningProbes x = new SpanningProbes(12);
        for (int e = 0; e < 24; e++) {
            due.same("edge " + e, x.edge(e % 2 == 0 ? 0 : 11, 2 + e % 10), e);
        }
    }

    private static void edgeWithoutBlock() {
        for (int n : new int[] {2, 4, 12}) {
            SpanningProbes x = new SpanningProbes(n);
            due.sentence("2: -1 if from is no block, n = " + n);
            for (int b : Sample.numbersBeyond(n)) {
                due.same("edge(" + b + ", 1)", x.edge(b, 1), -1);
            }
            due.sentence("2: -1 if to is no block, n = " + n);
            for (int b : Sample.numbersBeyond(n)) {
                due.same("edge(0, " + b + ")", x.edge(0, b), -1);
                due.same("edge(" + b + ", " + b + ")", x.edge(b, b), -1);
            }
            due.same("the first edge is added after these", x.edge(0, 1), 0);
        }
    }

    private static void edgeOfExitAndEntry() {
        SpanningProbes x = new SpanningProbes(4);
        due.sentence("2: -1 if from is EXIT");
        for (int b = 0; b < 4; b++) {
            due.same("edge(1, " + b + ")", x.edge(1, b), -1);
        }
        due.sentence("2: -1 if to is ENTRY");
        for (int b = 0; b < 4; b++) {
            due.same("edge(" + b + ", 0)", x.edge(b, 0), -1);
        }
        due.sentence("2: from ENTRY and to EXIT edges may lead");
        due.same("edge(0, 1)", x.edge(0, 1), 0);
        due.same("edge(0, 3)", x.edge(0, 3), 1);
        due.same("edge(3, 1)", x.edge(3, 1), 2);
    }

    private static void edgeOnSealedGraph() {
        due.sentence("2: -1 if the graph is sealed");
        SpanningProbes x = Sample.nested();
        SpanningProbes twin = Sample.nested();
        due.same("edge(0, 1)", x.edge(0, 1), -1);
        due.same("edge(2, 3)", x.edge(2, 3), -1);
        due.same("edge(1, 0)", x.edge(1, 0), -1);
        due.same("nothing is changed", Sample.allOf(x), Sample.allOf(twin));
        due.sentence("2: -1 if the graph is sealed, 24 edges there");
        SpanningProbes full = Sample.full();
        full.seal();
        due.same("edge(0, 1)", full.edge(0, 1), -1);
    }

    private static void edgeOnFullGraph() {
        due.sentence("2: else -2 if 24 edges are there");
        SpanningProbes x = new SpanningProbes(2);
        Sample.addMany(x, 0, 1, 23);
        due.same("the last one", x.edge(0, 1), 23);
        due.same("one more", x.edge(0, 1), -2);
        due.same("one more, again", x.edge(0, 1), -2);
        due.sentence("2: (-1) else -2");
        due.same("from EXIT", x.edge(1, 1), -1);
        due.same("to ENTRY", x.edge(0, 0), -1);
        due.same("from no block", x.edge(2, 1), -1);
        due.same("to no block", x.edge(0, 2), -1);
        due.same("to block -1", x.edge(0, -1), -1);
        due.sentence("2: what is refused with -2 adds nothing");
        due.same("seal()", x.seal(), 24);
        due.same("probe(23)", x.probe(23), true);
        due.same("increment(24)", x.increment(24), NONE);
    }

    private static void edgeRefusedAddsNothing() {
        due.sentence("2: what is refused with -1 adds nothing");
        SpanningProbes x = new SpanningProbes(4);
        int[] ends = Sample.nestedEnds();
        for (int i = 0; i < ends.length; i += 2) {
            x.edge(1, 2);
            x.edge(2, 0);
            x.edge(-1, 2);
            x.edge(2, 4);
            due.same("edge " + i / 2, x.edge(ends[i], ends[i + 1]), i / 2);
        }
        due.same("seal()", x.seal(), 10);
        due.same("all is as without them", Sample.allOf(x), Sample.allOf(Sample.nested()));
    }

    private static void sealAnswersWays() {
        due.sentence("3: answers the number of its ways: the least");
        due.same("one edge", Sample.graph(2, 0, 1).seal(), 1);
        due.same("a chain", Sample.graph(3, 0, 2, 2, 1).seal(), 1);
        due.sentence("3: answers the number of its ways: with STARTs");
        due.same("one loop", Sample.graph(3, 0, 2, 2, 2, 2, 1).seal(), 4);
        due.same("two loops", Sample.graph(4, Sample.nestedEnds()).seal(), 10);
        due.sentence("3: .. where the search comes back from a block before it meets EXIT");
        due.same("block 3 leads back alone", Sample.graph(4, 0, 2, 2, 3, 3, 2, 2, 1).seal(), 4);
    }

    private static void sealTwice() {
        due.sentence("3: -1 if it is sealed");
        SpanningProbes x = Sample.nested();
        SpanningProbes twin = Sample.nested();
        due.same("seal() again", x.seal(), -1);
        due.same("seal() once more", x.seal(), -1);
        due.same("nothing is changed", Sample.allOf(x), Sample.allOf(twin));
        due.sentence("3: -1 if it is sealed, a run being under way");
        x.start();
        twin.start();
        Sample.take(x, 1, 2);
        Sample.take(twin, 1, 2);
        due.same("seal()", x.seal(), -1);
        due.same("nothing is changed", Sample.allOf(x), Sample.allOf(twin));
    }

    private static void sealUnreachedBlock() {
        due.sentence("3: -2 if a block cannot be reached from ENTRY over edges");
        due.same("block 3 alone", Sample.graph(4, 0, 2, 2, 1).seal(), -2);
        due.same("block 3, which leads on", Sample.graph(4, 0, 2, 2, 1, 3, 1).seal(), -2);
        due.same("blocks 3 and 4 from one another", Sample.graph(5, 0, 2, 2, 1, 3, 4, 4, 3, 4, 1).seal(), -2);
        due.same("the last of twelve", unreachedLast().seal(), -2);
        due.same("all but ENTRY", Sample.graph(3, 2, 1).seal(), -2);
        due.sentence("3: -2 if EXIT alone cannot be reached");
        due.same("no edge at all", new SpanningProbes(2).seal(), -2);
        due.same("around and around", Sample.graph(3, 0, 2, 2, 2).seal(), -2);
    }

    private static SpanningProbes unreachedLast() {
        SpanningProbes x = new SpanningProbes(12);
        for (int b = 2; b < 11; b++) {
            x.edge(0, b);
            x.edge(b, 1);
        }
        x.edge(11, 1);
        return x;
    }

    private static void sealBlockWithoutExit() {
        due.sentence("3: (-2 if) EXIT cannot be reached from a block");
        due.same("a dead end", Sample.graph(4, 0, 2, 2, 1, 2, 3).seal(), -2);
        due.same("to itself alone", Sample.graph(4, 0, 2, 2, 1, 2, 3, 3, 3).seal(), -2);
        due.same("two to one another", Sample.graph(5, 0, 2, 2, 1, 2, 3, 3, 4, 4, 3).seal(), -2);
        due.same("back to one that reaches it", Sample.graph(4, 0, 2, 2, 1, 2, 3, 3, 2).seal(), 4);
    }

    private static SpanningProbes twoHundred() {
        SpanningProbes x = new SpanningProbes(4);
        Sample.addMany(x, 0, 2, 5);
        Sample.addMany(x, 2, 3, 5);
        Sample.addMany(x, 3, 1, 8);
        return x;
    }

    private static void sealLimitOfWays() {
        due.sentence("3: 200 ways are not more than 200");
        SpanningProbes x = twoHundred();
        due.same("seal()", x.seal(), 200);
        due.same("start()", x.start(), true);
        Sample.take(x, 4, 9, 17);
        due.same("passed(199)", x.passed(199), 1);
        due.sentence("3: -3 if there are more than 200 ways");
        SpanningProbes y = twoHundred();
        y.edge(0, 1);
        due.same("201 ways", y.seal(), -3);
        due.same("201 ways, again", y.seal(), -3);
    }

    private static void sealLimitWithLoops() {
        due.sentence("3: 200 ways are not more than 200, STARTs among them");
        SpanningProbes full = Sample.full();
        due.same("24 edges", full.seal(), 200);
        due.same("along(199, 0)", full.along(199, 0), 9);
        due.same("along(199, 1)", full.along(199, 1), 23);
        due.sentence("3: -3 if there are more than 200 ways, STARTs among them");
        SpanningProbes x = new SpanningProbes(3);
        Sample.addMany(x, 0, 2, 2);
        Sample.addMany(x, 2, 2, 8);
        Sample.addMany(x, 2, 1, 12);
        x.edge(0, 1);
        due.same("10 * 20 + 1 ways", x.seal(), -3);
        due.same("11 * 21 ways", manyLoops(11, 10).seal(), -3);
        due.same("13 * 13 ways", manyLoops(12, 1).seal(), 169);
    }

    private static SpanningProbes manyLoops(int loops, int out) {
        SpanningProbes x = new SpanningProbes(3);
        x.edge(0, 2);
        Sample.addMany(x, 2, 2, loops);
        Sample.addMany(x, 2, 1, out);
        return x;
    }

    private static void sealManyWays() {
        due.sentence("3: -3 if there are more than 200 ways, very many");
        SpanningProbes x = new SpanningProbes(9);
        int last = 0;
        for (int b = 2; b < 9; b++) {
            Sample.addMany(x, last, b, 3);
            last = b;
        }
        Sample.addMany(x, last, 1, 3);
        due.same("3 to the 8th", x.seal(), -3);
        SpanningProbes y = new SpanningProbes(3);
        y.edge(0, 2);
        Sample.addMany(y, 2, 2, 22);
        y.edge(2, 1);
        due.same("23 * 23", y.seal(), -3);
    }

    private static void sealOrderOfRefusals() {
        due.sentence("3: (-2) else -3");
        SpanningProbes unreached = new SpanningProbes(5);
        Sample.addMany(unreached, 0, 2, 8);
        Sample.addMany(unreached, 2, 3, 8);
        Sample.addMany(unreached, 3, 1, 7);
        due.same("block 4 is not reached", unreached.seal(), -2);
        unreached.edge(0, 4);
        due.same("block 4 leads nowhere", unreached.seal(), -2);
    }

    private static void dueNotSealed(SpanningProbes x) {
        for (int i = -1; i <= 24; i++) {
            due.same("back(" + i + ")", x.back(i), false);
            due.same("depth(" + i + ")", x.depth(i), -1);
            due.same("probe(" + i + ")", x.probe(i), false);
            due.same("increment(" + i + ")", x.increment(i), NONE);
            due.same("reset(" + i + ")", x.reset(i), NONE);
            due.same("count(" + i + ")", x.count(i), -1);
            due.same("visits(" + i + ")", x.visits(i), -1);
            due.same("passed(" + i + ")", x.passed(i), -1);
            due.same("along(" + i + ", 0)", x.along(i, 0), NONE);
            due.same("along(" + i + ", 1)", x.along(i, 1), NONE);
            due.same("stopped(" + i + ")", x.stopped(i), -1);
            due.same("covered(" + i + ")", x.covered(i), -1);
        }
        due.same("start()", x.start(), false);
        due.same("take(0)", x.take(0), -1);
        due.same("walk(0, 1)", x.walk(0, 1), -1);
        due.same("stop()", x.stop(), -1);
        due.same("at()", x.at(), -1);
        due.same("register()", x.register(), 0);
    }

    private static void notSealedAfterMinusTwo() {
        due.sentence("3: the graph is not sealed then (-2, a block cannot be reached)");
        SpanningProbes unreached = Sample.graph(4, 0, 2, 2, 2, 2, 1, 3, 1);
        due.same("seal()", unreached.seal(), -2);
        dueNotSealed(unreached);
        due.sentence("3: the graph is not sealed then (-2, EXIT cannot be reached)");
        SpanningProbes lost = Sample.graph(4, 0, 2, 2, 2, 2, 1, 2, 3);
        due.same("seal()", lost.seal(), -2);
        dueNotSealed(lost);
        due.sentence("3: edges may be added after -2, and nothing is left of it");
        SpanningProbes x = new SpanningProbes(4);
        int[] ends = Sample.nestedEnds();
        for (int e = 0; e < 6; e++) {
            due.same("seal() before edge " + e, x.seal(), -2);
            due.same("edge " + e, x.edge(ends[2 * e], ends[2 * e + 1]), e);
        }
        due.same("seal()", x.seal(), 10);
        due.same("all is as without a refusal", Sample.allOf(x), Sample.allOf(Sample.nested()));
    }

    /** Edges 0 | 1 .. 5 | 6 .. 10 | 11 .. 19: 9 + 5 * 5 * 9 ways. */
    private static SpanningProbes tooMany() {
        SpanningProbes x = new SpanningProbes(4);
        x.edge(0, 3);
        Sample.addMany(x, 0, 2, 5);
        Sample.addMany(x, 2, 3, 5);
        Sample.addMany(x, 3, 1, 9);
        return x;
    }

    private static void notSealedAfterMinusThree() {
        due.sentence("3: the graph is not sealed then (-3)");
        SpanningProbes x = tooMany();
        due.same("seal()", x.seal(), -3);
        dueNotSealed(x);
        due.sentence("3: edges may be added after -3, and nothing is left of it");
        SpanningProbes y = tooMany();
        due.same("seal()", y.seal(), -3);
        due.same("an edge more", y.edge(3, 2), 20);
        // Now block 2 is met from block 3, so edges 6 .. 10 are back: 14 + 5 * 5 + 5 * 14 ways.
        due.same("sealed at last", y.seal(), 109);
        for (int e = 0; e < 21; e++) {
            due.same("back(" + e + ")", y.back(e), e >= 6 && e <= 10);
        }
        int[] depths = {5, 0, 5, 5};
        for (int b = 0; b < 4; b++) {
            due.same("depth(" + b + ")", y.depth(b), depths[b]);
        }
        due.same("along(108, 0)", y.along(108, 0), 10);
        // The last of the 14 rows from block 3 is edge 20 with the END of edge 10.
        due.same("along(108, 1)", y.along(108, 1), 20);
        due.same("along(108, 2)", y.along(108, 2), 10);
    }

    private interface Ask {
        long of(int number);
    }

    /** Asks for numbers that are none of the first so many. */
    private static void dueRefused(String call, Ask ask, int many, long want) {
        for (int i : Sample.numbersBeyond(many)) {
            due.same(call + "(" + i + ")", ask.of(i), want);
        }
    }

    /** Asks a graph that is not sealed for numbers that are some. */
    private static void dueBeforeSeal(String call, Ask ask, long want) {
        for (int i = 0; i < 6; i++) {
            due.same(call + "(" + i + ")", ask.of(i), want);
        }
    }

    private static SpanningProbes sealedFull() {
        SpanningProbes x = Sample.full();
        x.seal();
        return x;
    }

    private static SpanningProbes unsealed() {
        return Sample.graph(4, Sample.nestedEnds());
    }

    private static void back() {
        due.sentence("4: whether edge e is back, the first and the last");
        SpanningProbes full = sealedFull();
        for (int e = 0; e < 24; e++) {
            due.same("back(" + e + ")", full.back(e), e >= 4 && e <= 9);
        }
        due.same("the first of all", Sample.sealed(3, 2, 2, 0, 2, 2, 1).back(0), true);
        SpanningProbes last = Sample.sealed(3, 0, 2, 2, 1, 2, 2);
        due.same("the last of all", last.back(2), true);
        due.sentence("4: false if there is no such edge");
        dueRefused("back", e -> last.back(e) ? 1 : 0, 3, 0);
        dueRefused("back", e -> full.back(e) ? 1 : 0, 24, 0);
        due.sentence("4: false if the graph is not sealed");
        SpanningProbes open = unsealed();
        dueBeforeSeal("back", e -> open.back(e) ? 1 : 0, 0);
    }

    private static void depth() {
        due.sentence("5: the depth of block b, the first and the last");
        SpanningProbes chain = Sample.chainOfTwelve();
        for (int b = 0; b < 12; b++) {
            due.same("depth(" + b + ")", chain.depth(b), 0);
        }
        SpanningProbes full = sealedFull();
        due.same("depth(0)", full.depth(0), 0);
        due.same("depth(1)", full.depth(1), 0);
        due.same("depth(2)", full.depth(2), 6);
        due.sentence("5: -1 if there is no such block");
        dueRefused("depth", chain::depth, 12, -1);
        dueRefused("depth", full::depth, 3, -1);
        dueRefused("depth", Sample.sealed(2, 0, 1)::depth, 2, -1);
        due.sentence("5: -1 if the graph is not sealed");
        dueBeforeSeal("depth", unsealed()::depth, -1);
    }

    private static void probe() {
        due.sentence("6: whether edge e has a probe, the first and the last");
        SpanningProbes full = sealedFull();
        for (int e = 0; e < 24; e++) {
            due.same("probe(" + e + ")", full.probe(e), e != 0);
        }
        due.sentence("6: all but two less than there are blocks have one");
        SpanningProbes chain = Sample.chainOfTwelve();
        for (int e = 0; e < 11; e++) {
            due.same("probe(" + e + ")", chain.probe(e), e == 10);
        }
        due.sentence("6: false if there is no such edge");
        dueRefused("probe", e -> full.probe(e) ? 1 : 0, 24, 0);
        dueRefused("probe", e -> chain.probe(e) ? 1 : 0, 11, 0);
        due.sentence("6: false if the graph is not sealed");
        SpanningProbes open = unsealed();
        dueBeforeSeal("probe", e -> open.probe(e) ? 1 : 0, 0);
    }

    private static void increment() {
        due.sentence("7: the INCREMENT of the link that edge e is, the first and the last");
        SpanningProbes full = sealedFull();
        for (int e = 0; e < 4; e++) {
            due.same("increment(" + e + ")", full.increment(e), 20 * e);
        }
        for (int e = 10; e < 24; e++) {
            due.same("increment(" + e + ")", full.increment(e), e - 4);
        }
        due.sentence("7: .. or of END e if it is back");
        for (int e = 4; e < 10; e++) {
            due.same("increment(" + e + ")", full.increment(e), e - 4);
        }
        due.same("nested: increment(2)", Sample.nested().increment(2), 1);
        due.same("nested: increment(4)", Sample.nested().increment(4), 2);
        due.sentence("7: NONE if there is no such edge");
        dueRefused("increment", full::increment, 24, NONE);
        dueRefused("increment", Sample.nested()::increment, 6, NONE);
        due.sentence("7: NONE if the graph is not sealed");
        dueBeforeSeal("increment", unsealed()::increment, NONE);
    }

    private static void reset() {
        due.sentence("8: the INCREMENT of START e, the first and the last");
        SpanningProbes full = sealedFull();
        for (int e = 4; e < 10; e++) {
            due.same("reset(" + e + ")", full.reset(e), 20 * e);
        }
        due.same("the first of all", Sample.sealed(3, 2, 2, 0, 2, 2, 1).reset(0), 2);
        SpanningProbes last = Sample.sealed(3, 0, 2, 2, 1, 2, 2);
        due.same("the last of all", last.reset(2), 2);
        due.sentence("8: NONE if it is not back");
        for (int e = 0; e < 24; e++) {
            if (e < 4 || e > 9) {
                due.same("reset(" + e + ")", full.reset(e), NONE);
            }
        }
        due.sentence("8: NONE if there is no such edge");
        dueRefused("reset", full::reset, 24, NONE);
        dueRefused("reset", last::reset, 3, NONE);
        due.sentence("8: NONE if the graph is not sealed");
        dueBeforeSeal("reset", unsealed()::reset, NONE);
    }
}
