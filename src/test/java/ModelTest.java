/** Runs of calls on many graphs, each answer compared with that of the model. */
public final class ModelTest {
    private static final int GRAPHS = 1500;
    private static final int CALLS = 512;
    private static final int NO_COVERAGE = 5;

    private final Due due = new Due();
    // A row of numbers that looks like chance and is the same each time.
    private long seed = 20261115L;
    private int sealedGraphs = 0;
    private int mostWays = 0;

    private SpanningProbes x;
    private Model model;
    private int blocks;
    private int edges;
    private int calls;
    private String name;

    public static void main(String[] args) {
        ModelTest test = new ModelTest();
        for (int g = 0; g < GRAPHS; g++) {
            test.runGraph(g);
        }
        System.out.println(test.sealedGraphs + " graphs were sealed, with up to " + test.mostWays + " ways");
        test.due.holds("most graphs were sealed", test.sealedGraphs * 2 > GRAPHS);
        test.due.holds("some graph has many ways", test.mostWays > 150);
        test.due.end("ModelTest");
    }

    private int below(int bound) {
        seed = seed * 6364136223846793005L + 1442695040888963407L;
        return (int) ((seed >>> 33) % bound);
    }

    private void runGraph(int g) {
        int n = below(10) == 0 ? below(20) - 3 : 2 + below(11);
        blocks = Math.max(2, Math.min(12, n));
        edges = 0;
        calls = 0;
        name = "graph " + g;
        x = new SpanningProbes(n);
        model = new Model(n);
        addMore(below(3) == 0 ? below(5) : 0);
        addSpine();
        addMore(below(4) == 0 ? 24 : below(8));
        sealOften();
        askAllOfGraph();
        while (calls < CALLS - 150) {
            callAny();
        }
        askAllCounts();
    }

    /** A row of edges through all blocks in some order, so that most graphs can be sealed. */
    private void addSpine() {
        int[] inner = new int[blocks - 2];
        for (int i = 0; i < inner.length; i++) {
            int j = below(i + 1);
            inner[i] = inner[j];
            inner[j] = i + 2;
        }
        int last = 0;
        for (int b : inner) {
            if (below(40) != 0) {
                addEdge(below(4) == 0 ? 0 : last, b);
            }
            if (below(4) == 0) {
                addEdge(b, 1);
            }
            last = b;
        }
        addEdge(last, 1);
    }

    private void addMore(int many) {
        for (int i = 0; i < many; i++) {
            int from = below(8) == 0 ? below(blocks + 2) - 1 : below(blocks);
            int to = below(8) == 0 ? below(blocks + 2) - 1 : below(blocks);
            addEdge(from, to);
            if (below(20) == 0) {
                sealOnce();
            }
        }
    }

    private void addEdge(int from, int to) {
        int got = x.edge(from, to);
        same("edge(" + from + ", " + to + ")", got, model.edge(from, to));
        edges = Math.max(edges, got + 1);
    }

    private int sealOnce() {
        int got = x.seal();
        same("seal()", got, model.seal());
        mostWays = Math.max(mostWays, got);
        return got;
    }

    private void sealOften() {
        int got = sealOnce();
        for (int b = 2; got == -2 && b < blocks; b++) {
            addEdge(b, 1);
            got = sealOnce();
        }
        if (model.depth(0) >= 0) {
            sealedGraphs++;
        }
    }

    private void same(String call, long got, long want) {
        calls++;
        due.same(name + ": " + call, got, want);
    }

    private void same(String call, boolean got, boolean want) {
        same(call, got ? 1 : 0, want ? 1 : 0);
    }

    private void askAllOfGraph() {
        for (int e = -1; e <= edges; e++) {
            same("back(" + e + ")", x.back(e), model.back(e));
            same("probe(" + e + ")", x.probe(e), model.probe(e));
            same("increment(" + e + ")", x.increment(e), model.increment(e));
            same("reset(" + e + ")", x.reset(e), model.reset(e));
        }
        for (int b = -1; b <= blocks; b++) {
            same("depth(" + b + ")", x.depth(b), model.depth(b));
        }
    }

    private void askAllCounts() {
        for (int e = -1; e <= edges; e++) {
            same("count(" + e + ")", x.count(e), model.count(e));
        }
        for (int b = -1; b <= blocks; b++) {
            same("visits(" + b + ")", x.visits(b), model.visits(b));
            same("stopped(" + b + ")", x.stopped(b), model.stopped(b));
        }
        for (int what = -1; what <= NO_COVERAGE; what++) {
            same("covered(" + what + ")", x.covered(what), model.covered(what));
        }
        // Beyond the calls of which the document speaks if there are many ways; they ask only.
        for (int w = -1; w <= 200; w++) {
            same("passed(" + w + ")", x.passed(w), model.passed(w));
        }
        for (int k = -1; k <= 13; k++) {
            for (int i = 0; i < 8; i++) {
                askAlong(below(201), k);
            }
        }
    }

    private void askAlong(int w, int k) {
        same("along(" + w + ", " + k + ")", x.along(w, k), model.along(w, k));
    }

    private int someNumber() {
        int[] far = {Integer.MIN_VALUE, Integer.MAX_VALUE, -2, 32, 64, 1 << 30};
        return below(60) == 0 ? far[below(far.length)] : below(26) - 1;
    }

    private void callAny() {
        switch (below(12)) {
            case 0 -> same("start()", x.start(), model.start());
            case 1 -> askWalk(below(20) - 1);
            case 2, 3 -> askWalk(1 + below(3));
            case 4, 5 -> takeSome();
            case 6 -> stopOrClear();
            case 7 -> askCounts(someNumber());
            case 8 -> askAlong(below(30) == 0 ? someNumber() : below(60), below(9) - 1);
            case 9 -> askGraph(someNumber());
            case 10 -> same("register()", x.register(), model.register());
            default -> same("at()", x.at(), model.at());
        }
        if (model.at() < 0 && below(2) == 0) {
            same("start()", x.start(), model.start());
        }
    }

    private void askWalk(int n) {
        int picks = below(1 << 16) << 16 | below(1 << 16);
        same("walk(" + picks + ", " + n + ")", x.walk(picks, n), model.walk(picks, n));
    }

    private void takeSome() {
        int e = someNumber();
        same("take(" + e + ")", x.take(e), model.take(e));
        same("register()", x.register(), model.register());
    }

    private void stopOrClear() {
        int choice = below(60);
        if (choice == 0) {
            calls++;
            x.clear();
            model.clear();
        } else if (choice < 15) {
            same("stop()", x.stop(), model.stop());
        } else if (choice < 18) {
            same("edge(0, 1)", x.edge(0, 1), model.edge(0, 1));
            same("seal()", x.seal(), model.seal());
        } else {
            int what = below(7) - 1;
            same("covered(" + what + ")", x.covered(what), model.covered(what));
        }
    }

    private void askCounts(int i) {
        same("count(" + i + ")", x.count(i), model.count(i));
        same("visits(" + i + ")", x.visits(i), model.visits(i));
        same("passed(" + i + ")", x.passed(i), model.passed(i));
        same("stopped(" + i + ")", x.stopped(i), model.stopped(i));
    }

    private void askGraph(int i) {
        same("back(" + i + ")", x.back(i), model.back(i));
        same("depth(" + i + ")", x.depth(i), model.depth(i));
        same("probe(" + i + ")", x.probe(i), model.probe(i));
        same("increment(" + i + ")", x.increment(i), model.increment(i));
        same("reset(" + i + ")", x.reset(i), model.reset(i));
    }
}
