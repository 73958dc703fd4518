import java.util.function.Consumer;
import java.util.function.ToLongFunction;

/** Promises 9 to 14 and 21: each sentence that names a boundary case, with a test of its own. */
public final class RunBoundariesTest {
    private static final Due due = new Due();

    /** A state of the nested graph: what leads to it, and the block where its run is (-1 for none). */
    private record State(String name, int where, Consumer<SpanningProbes> reach) {
        SpanningProbes make() {
            SpanningProbes x = Sample.nested();
            reach.accept(x);
            return x;
        }

        boolean isUnderWay() {
            return where >= 0;
        }
    }

    private static final State[] STATES = {
        new State("no run so far", -1, x -> { }),
        new State("at ENTRY", 0, SpanningProbes::start),
        new State("in block 2", 2, x -> begin(x, 1)),
        new State("in block 2 after edge 2", 2, x -> begin(x, 1, 2)),
        new State("in block 3 after edge 2", 3, x -> begin(x, 1, 2, 3)),
        new State("in block 2 after edge 4", 2, x -> begin(x, 1, 3, 4)),
        new State("after EXIT", -1, Sample::runNested),
        new State("after a stop", -1, x -> {
            begin(x, 1, 2, 3);
            x.stop();
        }),
        new State("after clear", -1, x -> {
            begin(x, 1, 2, 3);
            x.clear();
        }),
        new State("in the second run", 3, x -> {
            Sample.runNested(x);
            begin(x, 1, 3);
        }),
    };

    private static final int[] FROM = {0, 0, 2, 2, 3, 3};

    public static void main(String[] args) {
        startBegins();
        startNotSealed();
        startUnderWay();
        takeAnswersBlock();
        takeWithoutRun();
        takeNoEdge();
        takeFromElsewhere();
        walkCounts();
        walkEndsEarly();
        walkPlaces();
        walkUsesUpPicks();
        walkWithoutRun();
        walkTooFewOrMany();
        stopAnswersBlock();
        stopWithoutRun();
        at();
        register();
        clearCounts();
        clearEndsRun();
        clearKeepsSealedGraph();
        clearKeepsOpenGraph();
        askingChangesNothing();
        due.end("RunBoundariesTest");
    }

    private static void begin(SpanningProbes x, int... edges) {
        x.start();
        Sample.take(x, edges);
    }

    /** Makes a call that is due to change nothing, and compares with an object that was spared it. */
    private static void dueNoChange(State state, String call, ToLongFunction<SpanningProbes> refused, long want) {
        SpanningProbes x = state.make();
        SpanningProbes twin = state.make();
        String name = state.name() + ", " + call;
        due.same(name, refused.applyAsLong(x), want);
        due.same(name + ": nothing is changed", Sample.allOf(x), Sample.allOf(twin));
        goOn(x);
        goOn(twin);
        due.same(name + ": nor later", Sample.allOf(x), Sample.allOf(twin));
    }

    private static void goOn(SpanningProbes x) {
        x.walk(0b0101_0000, 3);
        x.walk(0b01_00_01_00, 2);
        x.start();
        x.walk(0b01_01_00_01_00_01, 16);
        x.start();
        x.walk(1, 2);
    }

    private static void startBegins() {
        due.sentence("9: begins a run at ENTRY");
        for (State state : STATES) {
            if (!state.isUnderWay()) {
                SpanningProbes x = state.make();
                int before = x.visits(0);
                due.same(state.name() + ", start()", x.start(), true);
                due.same(state.name() + ", at()", x.at(), 0);
                due.same(state.name() + ", register()", x.register(), 0);
                due.same(state.name() + ", visits(0)", x.visits(0), before + 1);
            }
        }
    }

    private static void startNotSealed() {
        due.sentence("9: false, changing nothing, if the graph is not sealed");
        SpanningProbes x = new SpanningProbes(4);
        due.same("without edges", x.start(), false);
        int[] ends = Sample.nestedEnds();
        for (int e = 0; e < 6; e++) {
            x.edge(ends[2 * e], ends[2 * e + 1]);
            due.same("before the seal", x.start(), false);
            due.same("at()", x.at(), -1);
        }
        x.seal();
        due.same("at() after it", x.at(), -1);
        due.same("all is as if it had not been called", Sample.allOf(x), Sample.allOf(Sample.nested()));
        due.sentence("9: false if the graph was refused by seal");
        SpanningProbes refused = Sample.graph(3, 0, 2);
        refused.seal();
        due.same("start()", refused.start(), false);
        due.same("at()", refused.at(), -1);
    }

    private static void startUnderWay() {
        due.sentence("9: false, changing nothing, if a run is under way");
        for (State state : STATES) {
            if (state.isUnderWay()) {
                dueNoChange(state, "start()", x -> x.start() ? 1 : 0, 0);
            }
        }
    }

    private static void takeAnswersBlock() {
        due.sentence("10: passes edge e; answers the block to which it leads");
        SpanningProbes x = Sample.nested();
        x.start();
        int[] edges = {1, 2, 3, 4, 3, 5};
        int[] blocks = {2, 2, 3, 2, 3, 1};
        for (int i = 0; i < edges.length; i++) {
            int before = x.count(edges[i]);
            due.same("take(" + edges[i] + ")", x.take(edges[i]), blocks[i]);
            due.same("count(" + edges[i] + ")", x.count(edges[i]), before + 1);
        }
        due.sentence("10: .. EXIT if it leads there, and the run has ended");
        due.same("at()", x.at(), -1);
        x.start();
        due.same("take(0)", x.take(0), 1);
        due.same("at()", x.at(), -1);
        due.sentence("10: .. the last edge of 24, the last block of 12");
        SpanningProbes full = Sample.full();
        full.seal();
        begin(full, 3, 9);
        due.same("take(23)", full.take(23), 1);
        SpanningProbes chain = Sample.chainOfTwelve();
        begin(chain, 0, 1, 2, 3, 4, 5, 6, 7, 8);
        due.same("take(9)", chain.take(9), 11);
    }

    private static void takeWithoutRun() {
        due.sentence("10: -1, changing nothing, if no run is under way");
        for (State state : STATES) {
            if (!state.isUnderWay()) {
                for (int e = 0; e < 6; e++) {
                    int edge = e;
                    dueNoChange(state, "take(" + e + ")", x -> x.take(edge), -1);
                }
            }
        }
        SpanningProbes open = Sample.graph(4, Sample.nestedEnds());
        for (int e = 0; e < 6; e++) {
            due.same("not sealed, take(" + e + ")", open.take(e), -1);
        }
    }

    private static void takeNoEdge() {
        due.sentence("10: -1, changing nothing, if e is no edge");
        for (State state : STATES) {
            for (int e : Sample.numbersBeyond(6)) {
                dueNoChange(state, "take(" + e + ")", x -> x.take(e), -1);
            }
        }
        SpanningProbes full = Sample.full();
        full.seal();
        full.start();
        due.same("take(24) of 24", full.take(24), -1);
    }

    private static void takeFromElsewhere() {
        due.sentence("10: -1, changing nothing, if e is no edge from the block where it is");
        for (State state : STATES) {
            for (int e = 0; e < 6; e++) {
                int edge = e;
                if (state.isUnderWay() && FROM[e] != state.where()) {
                    dueNoChange(state, "take(" + e + ")", x -> x.take(edge), -1);
                }
            }
        }
    }

    /** Edges 0: ENTRY to 2, 1: 2 to itself, 2: 2 to EXIT. */
    private static SpanningProbes around() {
        return Sample.sealed(3, 0, 2, 2, 2, 2, 1);
    }

    private static void walkCounts() {
        due.sentence("11: passes n edges");
        for (int n = 1; n <= 16; n++) {
            SpanningProbes x = around();
            x.start();
            due.same("walk(0, " + n + ")", x.walk(0, n), n);
            due.same("count(0)", x.count(0), 1);
            due.same("count(1)", x.count(1), n - 1);
            due.same("at()", x.at(), 2);
        }
        due.sentence("11: n = 0 passes none");
        for (State state : STATES) {
            if (state.isUnderWay()) {
                dueNoChange(state, "walk(-1, 0)", x -> x.walk(-1, 0), 0);
            }
        }
    }

    private static void walkEndsEarly() {
        due.sentence("11: fewer if the run ends; answers how many were passed");
        for (int last = 1; last < 16; last++) {
            SpanningProbes x = around();
            x.start();
            due.same("place 1 at step " + last, x.walk(1 << 2 * last, 16), last + 1);
            due.same("at()", x.at(), -1);
            due.same("count(1)", x.count(1), last - 1);
            due.same("count(2)", x.count(2), 1);
            due.same("no run any more", x.walk(0, 16), -1);
        }
        SpanningProbes chain = Sample.chainOfTwelve();
        chain.start();
        due.same("eleven of sixteen", chain.walk(-1, 16), 11);
        chain.start();
        due.same("eleven of eleven", chain.walk(-1, 11), 11);
        due.same("at()", chain.at(), -1);
        chain.start();
        due.same("ten of ten", chain.walk(-1, 10), 10);
        due.same("at()", chain.at(), 11);
    }

    private static void walkPlaces() {
        due.sentence("11: the one that stands in place (picks & 3) mod d");
        for (int d = 1; d <= 6; d++) {
            for (int picks = 0; picks < 4; picks++) {
                for (int high : new int[] {0, 4, 1 << 31, -4}) {
                    SpanningProbes x = new SpanningProbes(2);
                    Sample.addMany(x, 0, 1, d);
                    x.seal();
                    x.start();
                    String call = "d = " + d + ", walk(" + (high | picks) + ", 1)";
                    due.same(call, x.walk(high | picks, 1), 1);
                    due.same(call + ", count(" + picks % d + ")", x.count(picks % d), 1);
                }
            }
        }
        due.sentence("11: (counted from 0, in the order of numbers)");
        // From block 2 lead the edges 1, 3 and 4.
        int[] want = {1, 3, 4, 1};
        for (int place = 0; place < 4; place++) {
            SpanningProbes x = Sample.sealed(4, 0, 2, 2, 1, 3, 1, 2, 3, 2, 2);
            begin(x, 0);
            due.same("walk(" + place + ", 1)", x.walk(place, 1), 1);
            due.same("count(" + want[place] + ")", x.count(want[place]), 1);
        }
    }

    private static void walkUsesUpPicks() {
        due.sentence("11: after each one picks becomes picks >>> 2");
        SpanningProbes x = around();
        x.start();
        due.same("one edge from ENTRY uses up a pick, too", x.walk(0b01_11, 16), 2);
        due.sentence("11: .. up to the sixteenth");
        for (int place = 0; place < 4; place++) {
            SpanningProbes y = around();
            y.start();
            due.same("place " + place + " at last", y.walk(place << 30, 16), 16);
            due.same("place " + place + " at last, at()", y.at(), place % 2 == 0 ? 2 : -1);
        }
        due.sentence("11: .. and the next walk has picks of its own");
        SpanningProbes z = around();
        z.start();
        due.same("walk(0b01_00_00, 2)", z.walk(0b01_00_00, 2), 2);
        due.same("walk(0, 1)", z.walk(0, 1), 1);
        due.same("at()", z.at(), 2);
    }

    private static void walkWithoutRun() {
        due.sentence("11: -1, changing nothing, if no run is under way");
        for (State state : STATES) {
            for (int n : new int[] {0, 1, 16, -1, 17}) {
                if (!state.isUnderWay()) {
                    dueNoChange(state, "walk(0, " + n + ")", x -> x.walk(0, n), -1);
                }
            }
        }
        due.same("not sealed", Sample.graph(4, Sample.nestedEnds()).walk(0, 1), -1);
        due.same("not sealed, n = 0", Sample.graph(4, Sample.nestedEnds()).walk(0, 0), -1);
    }

    private static void walkTooFewOrMany() {
        due.sentence("11: -1, changing nothing, if n is not 0 .. 16");
        for (State state : STATES) {
            for (int n : new int[] {-1, -16, 17, 18, 32, 1 << 16, Integer.MIN_VALUE, Integer.MAX_VALUE}) {
                dueNoChange(state, "walk(1, " + n + ")", x -> x.walk(1, n), -1);
            }
        }
    }

    private static void stopAnswersBlock() {
        due.sentence("12: stops the run; answers the block where it was");
        for (State state : STATES) {
            if (state.isUnderWay()) {
                SpanningProbes x = state.make();
                due.same(state.name() + ", stop()", x.stop(), state.where());
                due.same(state.name() + ", at()", x.at(), -1);
                due.same(state.name() + ", register()", x.register(), 0);
                due.same(state.name() + ", stopped", x.stopped(state.where()), 1);
                due.same(state.name() + ", start()", x.start(), true);
            }
        }
        due.sentence("12: .. the last of twelve blocks");
        SpanningProbes chain = Sample.chainOfTwelve();
        chain.start();
        chain.walk(0, 10);
        due.same("stop()", chain.stop(), 11);
        due.same("stopped(11)", chain.stopped(11), 1);
    }

    private static void stopWithoutRun() {
        due.sentence("12: -1 if none is under way");
        for (State state : STATES) {
            if (!state.isUnderWay()) {
                dueNoChange(state, "stop()", SpanningProbes::stop, -1);
            }
        }
        due.same("not sealed", Sample.graph(4, Sample.nestedEnds()).stop(), -1);
        due.same("without edges", new SpanningProbes(2).stop(), -1);
    }

    private static void at() {
        due.sentence("13: the block where the run is");
        for (State state : STATES) {
            if (state.isUnderWay()) {
                due.same(state.name(), state.make().at(), state.where());
            }
        }
        due.sentence("13: -1 if none is under way");
        for (State state : STATES) {
            if (!state.isUnderWay()) {
                due.same(state.name(), state.make().at(), -1);
            }
        }
        due.same("not sealed", Sample.graph(4, Sample.nestedEnds()).at(), -1);
        due.same("without edges", new SpanningProbes(2).at(), -1);
    }

    private static void register() {
        due.sentence("14: the REGISTER (0 if no run is under way)");
        for (State state : STATES) {
            if (!state.isUnderWay()) {
                due.same(state.name(), state.make().register(), 0);
            }
        }
        due.same("not sealed", Sample.graph(4, Sample.nestedEnds()).register(), 0);
        due.sentence("14: .. a new run begins with 0");
        SpanningProbes x = Sample.nested();
        begin(x, 1, 2);
        due.same("before", x.register(), 3);
        x.stop();
        x.start();
        due.same("after stop and start", x.register(), 0);
        Sample.take(x, 1, 2);
        x.clear();
        x.start();
        due.same("after clear and start", x.register(), 0);
        due.sentence("14: .. with the greatest START");
        SpanningProbes full = Sample.full();
        full.seal();
        begin(full, 0, 9);
        due.same("after edge 9", full.register(), 180);
        Sample.take(full, 9);
        due.same("after edge 9 again", full.register(), 180);
    }

    private static void clearCounts() {
        due.sentence("21: all counts become 0");
        for (State state : STATES) {
            SpanningProbes x = state.make();
            x.clear();
            due.same(state.name(), Sample.allOf(x), Sample.allOf(Sample.nested()));
        }
        due.sentence("21: .. and count on from there");
        for (State state : STATES) {
            SpanningProbes x = state.make();
            SpanningProbes fresh = Sample.nested();
            x.clear();
            goOn(x);
            goOn(fresh);
            due.same(state.name(), Sample.allOf(x), Sample.allOf(fresh));
        }
        due.sentence("21: .. that of way 199, edge 23 and block 11, too");
        SpanningProbes full = Sample.full();
        full.seal();
        begin(full, 3, 9, 23);
        due.same("passed(199)", full.passed(199), 1);
        full.clear();
        due.same("passed(199) after it", full.passed(199), 0);
        due.same("count(23) after it", full.count(23), 0);
        SpanningProbes chain = Sample.chainOfTwelve();
        chain.start();
        chain.walk(0, 10);
        chain.stop();
        chain.clear();
        due.same("stopped(11) after it", chain.stopped(11), 0);
        due.same("visits(11) after it", chain.visits(11), 0);
    }

    private static void clearEndsRun() {
        due.sentence("21: a run that is under way ends without being stopped");
        for (State state : STATES) {
            SpanningProbes x = state.make();
            x.clear();
            due.same(state.name() + ", at()", x.at(), -1);
            due.same(state.name() + ", register()", x.register(), 0);
            due.same(state.name() + ", take(1)", x.take(1), -1);
            due.same(state.name() + ", stop()", x.stop(), -1);
            for (int b = 0; b < 4; b++) {
                due.same(state.name() + ", stopped(" + b + ")", x.stopped(b), 0);
            }
            due.same(state.name() + ", start()", x.start(), true);
        }
    }

    private static void clearKeepsSealedGraph() {
        due.sentence("21: the graph, sealed, stays");
        for (State state : STATES) {
            SpanningProbes x = state.make();
            x.clear();
            x.clear();
            due.same(state.name() + ", seal()", x.seal(), -1);
            due.same(state.name() + ", edge(0, 1)", x.edge(0, 1), -1);
            due.same(state.name(), Sample.allOf(x), Sample.allOf(Sample.nested()));
        }
    }

    private static void clearKeepsOpenGraph() {
        due.sentence("21: the graph, (not) sealed, stays");
        SpanningProbes x = new SpanningProbes(4);
        int[] ends = Sample.nestedEnds();
        x.clear();
        for (int e = 0; e < 6; e++) {
            due.same("edge " + e, x.edge(ends[2 * e], ends[2 * e + 1]), e);
            x.clear();
            due.same("still not sealed", x.depth(0), -1);
        }
        due.same("seal()", x.seal(), 10);
        due.same("all is as without clear", Sample.allOf(x), Sample.allOf(Sample.nested()));
    }

    private static void askingChangesNothing() {
        due.sentence("Not promised: nothing beyond the state changes described above (asking changes nothing)");
        for (State state : STATES) {
            SpanningProbes x = state.make();
            SpanningProbes twin = state.make();
            Sample.allOf(x);
            goOn(x);
            goOn(twin);
            due.same(state.name(), Sample.allOf(x), Sample.allOf(twin));
        }
    }
}
