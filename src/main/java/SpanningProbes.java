import java.util.Arrays;

/**
 * Counts exactly how often every edge, block and path of a flow graph is passed, with counters on
 * few edges alone: those outside of a tree, and one register for paths.
 *
 * Sets of blocks are held as bits of an int, since there are at most twelve.
 */
public final class SpanningProbes {
    public static final int NONE = Integer.MIN_VALUE;

    private static final int ENTRY = 0;
    private static final int EXIT = 1;
    private static final int NOWHERE = -1;
    private static final int LEAST_BLOCKS = 2;
    private static final int MOST_BLOCKS = 12;
    private static final int MOST_EDGES = 24;
    private static final int MOST_WAYS = 200;
    private static final int MOST_STEPS = 16;

    private final Graph graph;
    private final Search search;
    private final Loops loops;
    private final Tree tree;
    private final Links links;
    private final Counters counters;
    private boolean isSealed;
    private int where;
    private int sum;

    public SpanningProbes(int n) {
        graph = new Graph(Math.max(LEAST_BLOCKS, Math.min(MOST_BLOCKS, n)));
        search = new Search(graph);
        loops = new Loops(graph, search);
        tree = new Tree(graph);
        links = new Links(graph, search);
        counters = new Counters(graph, tree);
        isSealed = false;
        where = NOWHERE;
        sum = 0;
    }

    public int edge(int from, int to) {
        if (isSealed || !graph.hasBlock(from) || !graph.hasBlock(to)) {
            return -1;
        }
        if (from == EXIT || to == ENTRY) {
            return -1;
        }
        return graph.edges < MOST_EDGES ? graph.add(from, to) : -2;
    }

    public int seal() {
        if (isSealed) {
            return -1;
        }
        search.explore();
        if (!search.metAll() || !graph.allReachExit()) {
            return -2;
        }
        links.number();
        if (links.ways > MOST_WAYS) {
            return -3;
        }
        loops.measure();
        tree.grow(loops.order, graph.edges);
        counters.cut();
        links.spread(loops.order);
        isSealed = true;
        return links.ways;
    }

    public boolean back(int e) {
        return knowsEdge(e) && search.isBack[e];
    }

    public int depth(int b) {
        return knowsBlock(b) ? loops.depths[b] : -1;
    }

    public boolean probe(int e) {
        return knowsEdge(e) && !tree.has[e];
    }

    public int increment(int e) {
        return knowsEdge(e) ? links.incrementOf(e) : NONE;
    }

    public int reset(int e) {
        return knowsEdge(e) && search.isBack[e] ? links.startIncrementOf(e) : NONE;
    }

    public boolean start() {
        if (!isSealed || isUnderWay()) {
            return false;
        }
        where = ENTRY;
        return true;
    }

    public int take(int e) {
        if (!isUnderWay() || !graph.hasEdge(e) || graph.from[e] != where) {
            return -1;
        }
        pass(e);
        return graph.to[e];
    }

    public int walk(int picks, int n) {
        if (!isUnderWay() || n < 0 || n > MOST_STEPS) {
            return -1;
        }
        int left = picks;
        for (int done = 0; done < n; done++) {
            int e = isUnderWay() ? graph.pickFrom(where, left & 3) : -1;
            if (e < 0) {
                return done;
            }
            pass(e);
            left = left >>> 2;
        }
        return n;
    }

    public int stop() {
        if (!isUnderWay()) {
            return -1;
        }
        int last = where;
        counters.stops[last]++;
        endRun();
        return last;
    }

    public int at() {
        return where;
    }

    public int register() {
        return sum;
    }

    public int count(int e) {
        return knowsEdge(e) ? counters.passesOf(e, where) : -1;
    }

    public int visits(int b) {
        return knowsBlock(b) ? counters.visitsOf(b, where) : -1;
    }

    public int passed(int w) {
        return knowsWay(w) ? counters.completed[w] : -1;
    }

    public int along(int w, int k) {
        if (!knowsWay(w) || k < 0) {
            return NONE;
        }
        int first = links.startOfWay(w);
        return k == 0 ? first : links.edgeOfWay(w, first, k);
    }

    public int stopped(int b) {
        return knowsBlock(b) ? counters.stops[b] : -1;
    }

    public int covered(int what) {
        if (!isSealed) {
            return -1;
        }
        switch (what) {
            case 0:
                return counters.blocksVisited(where);
            case 1:
                return counters.edgesPassed(where);
            case 2:
                return counters.waysCompleted();
            case 3:
                return counters.visitsOf(ENTRY, where);
            case 4:
                return counters.visitsOf(EXIT, where);
            default:
                return -1;
        }
    }

    public void clear() {
        counters.forget();
        endRun();
    }

    private boolean knowsEdge(int e) {
        return isSealed && graph.hasEdge(e);
    }

    private boolean knowsBlock(int b) {
        return isSealed && graph.hasBlock(b);
    }

    private boolean knowsWay(int w) {
        return isSealed && w >= 0 && w < links.ways;
    }

    private boolean isUnderWay() {
        return where != NOWHERE;
    }

    private void pass(int e) {
        counters.hit(e);
        sum += links.incrementOf(e);
        where = graph.to[e];
        if (search.isBack[e]) {
            completeWay();
            sum = links.startIncrementOf(e);
        } else if (where == EXIT) {
            completeWay();
            endRun();
        }
    }

    private void completeWay() {
        if (knowsWay(sum)) {
            counters.completed[sum]++;
        }
    }

    private void endRun() {
        where = NOWHERE;
        sum = 0;
    }

    private static int bit(int b) {
        return 1 << b;
    }

    private static boolean isIn(int set, int b) {
        return (set >> b & 1) != 0;
    }

    /** The blocks and the edges. */
    private static final class Graph {
        final int blocks;
        final int[] from;
        final int[] to;
        int edges;

        Graph(int blocks) {
            this.blocks = blocks;
            from = new int[MOST_EDGES];
            to = new int[MOST_EDGES];
            edges = 0;
        }

        boolean hasBlock(int b) {
            return b >= 0 && b < blocks;
        }

        boolean hasEdge(int e) {
            return e >= 0 && e < edges;
        }

        int add(int a, int b) {
            from[edges] = a;
            to[edges] = b;
            edges++;
            return edges - 1;
        }

        /** The first edge from block b whose number is at least low; -1 if there is none. */
        int nextFrom(int b, int low) {
            for (int e = low; e < edges; e++) {
                if (from[e] == b) {
                    return e;
                }
            }
            return -1;
        }

        /** The edge from block b in the given place, counted around; -1 if none leads from it. */
        int pickFrom(int b, int place) {
            int degree = 0;
            for (int e = 0; e < edges; e++) {
                if (from[e] == b) {
                    degree++;
                }
            }
            if (degree == 0) {
                return -1;
            }
            int e = nextFrom(b, 0);
            for (int skip = place % degree; skip > 0; skip--) {
                e = nextFrom(b, e + 1);
            }
            return e;
        }

        boolean allReachExit() {
            return blocksReaching(EXIT, NOWHERE) == allBlocks();
        }

        int allBlocks() {
            return bit(blocks) - 1;
        }

        /** The blocks from which target can be reached without ever being at the barred block. */
        int blocksReaching(int target, int barred) {
            int found = target == barred ? 0 : bit(target);
            for (int round = 1; round < blocks; round++) {
                for (int e = 0; e < edges; e++) {
                    if (isIn(found, to[e]) && from[e] != barred) {
                        found |= bit(from[e]);
                    }
                }
            }
            return found;
        }
    }

    /** The search from ENTRY: which edges are back, and in which order it came back from blocks. */
    private static final class Search {
        final Graph graph;
        final boolean[] isBack;
        final int[] finished;
        final int[] stack;
        final int[] lookedUpTo;
        int met;
        int open;
        int height;

        Search(Graph graph) {
            this.graph = graph;
            isBack = new boolean[MOST_EDGES];
            finished = new int[MOST_BLOCKS];
            stack = new int[MOST_BLOCKS];
            lookedUpTo = new int[MOST_BLOCKS];
            met = 0;
            open = 0;
            height = 0;
        }

        boolean metAll() {
            return met == graph.allBlocks();
        }

        void explore() {
            met = 0;
            open = 0;
            height = 0;
            int many = 0;
            enter(ENTRY);
            // Each step looks at one edge or comes back from one block, and none twice.
            int steps = graph.edges + graph.blocks;
            for (int step = 0; step < steps && height > 0; step++) {
                int b = stack[height - 1];
                int e = graph.nextFrom(b, lookedUpTo[b]);
                if (e < 0) {
                    height--;
                    open &= ~bit(b);
                    finished[many] = b;
                    many++;
                } else {
                    lookedUpTo[b] = e + 1;
                    lookAt(e);
                }
            }
        }

        private void enter(int b) {
            met |= bit(b);
            open |= bit(b);
            lookedUpTo[b] = 0;
            stack[height] = b;
            height++;
        }

        private void lookAt(int e) {
            int b = graph.to[e];
            isBack[e] = isIn(open, b);
            if (!isIn(met, b)) {
                enter(b);
            }
        }
    }

    /** The depths of blocks, and the order of edges that follows from them. */
    private static final class Loops {
        final Graph graph;
        final Search search;
        final int[] depths;
        final int[] order;

        Loops(Graph graph, Search search) {
            this.graph = graph;
            this.search = search;
            depths = new int[MOST_BLOCKS];
            order = new int[MOST_EDGES];
        }

        /** Finds depths and order; it is done once. */
        void measure() {
            for (int e = 0; e < graph.edges; e++) {
                if (search.isBack[e]) {
                    deepen(loopOf(e));
                }
            }
            putInOrder();
        }

        private int loopOf(int e) {
            int head = graph.to[e];
            return bit(head) | graph.blocksReaching(graph.from[e], head);
        }

        private void deepen(int loop) {
            for (int b = 0; b < graph.blocks; b++) {
                if (isIn(loop, b)) {
                    depths[b]++;
                }
            }
        }

        private int weightOf(int e) {
            return Math.min(depths[graph.from[e]], depths[graph.to[e]]);
        }

        private void putInOrder() {
            int many = 0;
            // No block is in more loops than there are edges.
            for (int weight = graph.edges; weight >= 0; weight--) {
                for (int e = 0; e < graph.edges; e++) {
                    if (weightOf(e) == weight) {
                        order[many] = e;
                        many++;
                    }
                }
            }
        }
    }

    /** The edges that join blocks which those before them do not; ENTRY and EXIT are joined. */
    private static final class Tree {
        final Graph graph;
        final boolean[] has;
        final int[] group;

        Tree(Graph graph) {
            this.graph = graph;
            has = new boolean[MOST_EDGES];
            group = new int[MOST_BLOCKS];
        }

        /** Grows from the first so many edges of the order; it is done once. */
        void grow(int[] order, int many) {
            for (int b = 0; b < graph.blocks; b++) {
                group[b] = b;
            }
            join(ENTRY, EXIT);
            for (int i = 0; i < many; i++) {
                int e = order[i];
                has[e] = join(graph.from[e], graph.to[e]);
            }
        }

        /** Joins two blocks; answers whether they were not joined before. */
        private boolean join(int a, int b) {
            int kept = group[a];
            int gone = group[b];
            for (int i = 0; i < graph.blocks; i++) {
                if (group[i] == gone) {
                    group[i] = kept;
                }
            }
            return kept != gone;
        }

        /** The blocks that are cut off from ENTRY and EXIT if edge cut is taken from the tree. */
        int blocksBehind(int cut) {
            int near = bit(ENTRY) | bit(EXIT);
            for (int round = 1; round < graph.blocks; round++) {
                for (int e = 0; e < graph.edges; e++) {
                    int ends = bit(graph.from[e]) | bit(graph.to[e]);
                    if (has[e] && e != cut && (near & ends) != 0) {
                        near |= ends;
                    }
                }
            }
            return graph.allBlocks() & ~near;
        }
    }

    /** The links, by the numbers of their edges: each edge's own one (a back edge's END), and STARTs. */
    private static final class Links {
        final Graph graph;
        final Search search;
        final Tree tree;
        final int[] rows;
        final int[] values;
        final int[] startValues;
        final int[] bases;
        final int[] order;
        int ways;

        Links(Graph graph, Search search) {
            this.graph = graph;
            this.search = search;
            tree = new Tree(graph);
            rows = new int[MOST_BLOCKS];
            values = new int[MOST_EDGES];
            startValues = new int[MOST_EDGES];
            bases = new int[MOST_BLOCKS];
            order = new int[MOST_EDGES];
            ways = 0;
        }

        /** Where the link of edge e leads: its own one, or its END. */
        int targetOf(int e) {
            return search.isBack[e] ? EXIT : graph.to[e];
        }

        int incrementOf(int e) {
            return values[e] + bases[graph.from[e]] - bases[targetOf(e)];
        }

        int startIncrementOf(int e) {
            return startValues[e] + bases[ENTRY] - bases[graph.to[e]];
        }

        /** Finds the values and the number of ways; asks for a search that met all blocks. */
        void number() {
            rows[EXIT] = 1;
            // Links lead to blocks from which the search came back earlier, so their rows are known.
            for (int i = 0; i < graph.blocks; i++) {
                int b = search.finished[i];
                if (b != EXIT) {
                    rows[b] = numberFrom(b);
                }
            }
            ways = numberStarts(rows[ENTRY]);
        }

        private int numberFrom(int b) {
            int before = 0;
            for (int e = 0; e < graph.edges; e++) {
                if (graph.from[e] == b) {
                    values[e] = before;
                    before += rows[targetOf(e)];
                }
            }
            return before;
        }

        private int numberStarts(int rowsBefore) {
            int before = rowsBefore;
            for (int e = 0; e < graph.edges; e++) {
                if (search.isBack[e]) {
                    startValues[e] = before;
                    before += rows[graph.to[e]];
                }
            }
            return before;
        }

        /** Finds the tree of links and with it the bases. */
        void spread(int[] edgeOrder) {
            // The edges that the search followed are not back and join all blocks, and STARTs and
            // ENDs come after them in the order, so none of these is ever in the tree.
            tree.grow(order, leaveOutBack(edgeOrder));
            int known = bit(ENTRY) | bit(EXIT);
            for (int round = 1; round < graph.blocks; round++) {
                for (int e = 0; e < graph.edges; e++) {
                    if (tree.has[e]) {
                        known = spreadOver(e, known);
                    }
                }
            }
        }

        private int leaveOutBack(int[] edgeOrder) {
            int many = 0;
            for (int i = 0; i < graph.edges; i++) {
                if (!search.isBack[edgeOrder[i]]) {
                    order[many] = edgeOrder[i];
                    many++;
                }
            }
            return many;
        }

        private int spreadOver(int e, int known) {
            int a = graph.from[e];
            int b = graph.to[e];
            if (isIn(known, a) && !isIn(known, b)) {
                bases[b] = bases[a] + values[e];
            } else if (isIn(known, b) && !isIn(known, a)) {
                bases[a] = bases[b] - values[e];
            } else {
                return known;
            }
            return known | bit(a) | bit(b);
        }

        /** The back edge whose START is the first link of way w; -1 if that is no START. */
        int startOfWay(int w) {
            int found = -1;
            for (int e = 0; e < graph.edges; e++) {
                if (search.isBack[e] && startValues[e] <= w) {
                    found = e;
                }
            }
            return found;
        }

        /** The edge of the k-th link of way w, whose START is that of edge first; k is above 0. */
        int edgeOfWay(int w, int first, int k) {
            int b = first < 0 ? ENTRY : graph.to[first];
            int rest = first < 0 ? w : w - startValues[first];
            // No way is at a block twice, so it has fewer links than there are blocks.
            for (int i = 1; i < graph.blocks && b != EXIT; i++) {
                int e = linkFrom(b, rest);
                if (e < 0 || i == k) {
                    return e < 0 ? NONE : e;
                }
                rest -= values[e];
                b = targetOf(e);
            }
            return NONE;
        }

        /** The link from block b, no START, with which the rest-th row of links from it begins. */
        private int linkFrom(int b, int rest) {
            int found = -1;
            for (int e = 0; e < graph.edges; e++) {
                if (graph.from[e] == b && values[e] <= rest) {
                    found = e;
                }
            }
            return found;
        }
    }

    /** What runs leave behind: hits of probes, stops at blocks, completed ways; all else follows. */
    private static final class Counters {
        final Graph graph;
        final Tree tree;
        final int[] behind;
        final int[] hits;
        final int[] stops;
        final int[] completed;

        Counters(Graph graph, Tree tree) {
            this.graph = graph;
            this.tree = tree;
            behind = new int[MOST_EDGES];
            hits = new int[MOST_EDGES];
            stops = new int[MOST_BLOCKS];
            completed = new int[MOST_WAYS];
        }

        void forget() {
            Arrays.fill(hits, 0);
            Arrays.fill(stops, 0);
            Arrays.fill(completed, 0);
        }

        /** Finds for every edge of the tree the blocks that it alone joins with ENTRY and EXIT. */
        void cut() {
            for (int e = 0; e < graph.edges; e++) {
                behind[e] = tree.has[e] ? tree.blocksBehind(e) : 0;
            }
        }

        void hit(int e) {
            if (!tree.has[e]) {
                hits[e]++;
            }
        }

        /**
         * A tree's edge alone joins the blocks behind it with the others, so all other edges in and
         * out have probes. Neither ENTRY nor EXIT is behind it: each passage in is followed by one
         * out, or the run was left there.
         */
        int passesOf(int e, int where) {
            if (!tree.has[e]) {
                return hits[e];
            }
            int moreIn = runsLeftIn(behind[e], where) + hitsOutOf(behind[e]);
            return isIn(behind[e], graph.to[e]) ? moreIn : -moreIn;
        }

        /** How many runs were stopped at these blocks or are at one of them. */
        private int runsLeftIn(int set, int where) {
            int all = where != NOWHERE && isIn(set, where) ? 1 : 0;
            for (int b = 0; b < graph.blocks; b++) {
                if (isIn(set, b)) {
                    all += stops[b];
                }
            }
            return all;
        }

        /** How much oftener probes were hit that lead out of these blocks than those into them. */
        private int hitsOutOf(int set) {
            int all = 0;
            for (int e = 0; e < graph.edges; e++) {
                all += isIn(set, graph.from[e]) ? hits[e] : 0;
                all -= isIn(set, graph.to[e]) ? hits[e] : 0;
            }
            return all;
        }

        int visitsOf(int b, int where) {
            if (b == ENTRY) {
                // Every run that began has come to EXIT, was stopped, or is under way.
                return passesInto(EXIT, where) + runsLeftIn(graph.allBlocks(), where);
            }
            return passesInto(b, where);
        }

        private int passesInto(int b, int where) {
            int all = 0;
            for (int e = 0; e < graph.edges; e++) {
                if (graph.to[e] == b) {
                    all += passesOf(e, where);
                }
            }
            return all;
        }

        int blocksVisited(int where) {
            int found = 0;
            for (int b = 0; b < graph.blocks; b++) {
                if (visitsOf(b, where) > 0) {
                    found++;
                }
            }
            return found;
        }

        int edgesPassed(int where) {
            int found = 0;
            for (int e = 0; e < graph.edges; e++) {
                if (passesOf(e, where) > 0) {
                    found++;
                }
            }
            return found;
        }

        int waysCompleted() {
            int found = 0;
            for (int w = 0; w < MOST_WAYS; w++) {
                if (completed[w] > 0) {
                    found++;
                }
            }
            return found;
        }
    }
}
