import java.util.ArrayList;
import java.util.List;

/**
 * The document's terms word by word, without a thought for speed: ways are listed, all edges have
 * counters, trees are found by asking for each edge whether those before it join its ends.
 */
final class Model {
    static final int NONE = Integer.MIN_VALUE;
    private static final int ENTRY = 0;
    private static final int EXIT = 1;

    enum Kind { PLAIN, START, END }

    record Link(Kind kind, int edge, int from, int to) { }

    private final int n;
    private final List<int[]> edges = new ArrayList<>();
    private boolean sealed = false;

    private List<Integer> backEdges = new ArrayList<>();
    private int[] depths = new int[0];
    private List<Integer> edgeOrder = new ArrayList<>();
    private List<Link> links = new ArrayList<>();
    private List<List<Link>> ways = new ArrayList<>();
    private Integer[] bases = new Integer[0];

    private int where = -1;
    private int begun = 0;
    private int ended = 0;
    private int[] counts = new int[24];
    private int[] visits = new int[12];
    private int[] stops = new int[12];
    private int[] completed = new int[200];
    private List<Link> present = new ArrayList<>();

    Model(int n) {
        this.n = n < 2 ? 2 : n > 12 ? 12 : n;
    }

    private boolean isBlock(int b) {
        return b >= 0 && b < n;
    }

    private boolean isEdge(int e) {
        return e >= 0 && e < edges.size();
    }

    private int from(int e) {
        return edges.get(e)[0];
    }

    private int to(int e) {
        return edges.get(e)[1];
    }

    int edge(int from, int to) {
        if (sealed || !isBlock(from) || !isBlock(to) || from == EXIT || to == ENTRY) {
            return -1;
        }
        if (edges.size() == 24) {
            return -2;
        }
        edges.add(new int[] {from, to});
        return edges.size() - 1;
    }

    int seal() {
        if (sealed) {
            return -1;
        }
        for (int b = 0; b < n; b++) {
            if (!reaches(ENTRY, b, -1, new boolean[n]) || !reaches(b, EXIT, -1, new boolean[n])) {
                return -2;
            }
        }
        backEdges = new ArrayList<>();
        search(ENTRY, new boolean[n], new boolean[n]);
        links = allLinks();
        ways = rowsFrom(ENTRY);
        if (ways.size() > 200) {
            return -3;
        }
        depths = allDepths();
        edgeOrder = ordered();
        bases = allBases();
        sealed = true;
        return ways.size();
    }

    /** Whether a path leads from a to b (perhaps without an edge), no block of it being the barred one. */
    private boolean reaches(int a, int b, int barred, boolean[] seen) {
        if (a == barred || b == barred || seen[a]) {
            return false;
        }
        if (a == b) {
            return true;
        }
        seen[a] = true;
        for (int[] e : edges) {
            if (e[0] == a && reaches(e[1], b, barred, seen)) {
                return true;
            }
        }
        return false;
    }

    private void search(int b, boolean[] met, boolean[] left) {
        met[b] = true;
        for (int e = 0; e < edges.size(); e++) {
            if (from(e) == b) {
                if (!met[to(e)]) {
                    search(to(e), met, left);
                } else if (!left[to(e)]) {
                    backEdges.add(e);
                }
            }
        }
        left[b] = true;
    }

    private int[] allDepths() {
        int[] found = new int[n];
        for (int e : backEdges) {
            for (int b = 0; b < n; b++) {
                if (b == to(e) || reaches(b, from(e), to(e), new boolean[n])) {
                    found[b]++;
                }
            }
        }
        return found;
    }

    private int weight(int e) {
        return Math.min(depths[from(e)], depths[to(e)]);
    }

    private List<Integer> ordered() {
        List<Integer> all = new ArrayList<>();
        for (int e = 0; e < edges.size(); e++) {
            all.add(e);
        }
        all.sort((a, b) -> weight(a) != weight(b) ? weight(b) - weight(a) : a - b);
        return all;
    }

    private List<Link> allLinks() {
        List<Link> all = new ArrayList<>();
        for (int e = 0; e < edges.size(); e++) {
            boolean isBack = backEdges.contains(e);
            all.add(new Link(isBack ? Kind.END : Kind.PLAIN, e, from(e), isBack ? EXIT : to(e)));
        }
        for (int e = 0; e < edges.size(); e++) {
            if (backEdges.contains(e)) {
                all.add(new Link(Kind.START, e, ENTRY, to(e)));
            }
        }
        return all;
    }

    private Link find(Kind kind, int edge) {
        for (Link link : links) {
            if (link.kind() == kind && link.edge() == edge) {
                return link;
            }
        }
        return null;
    }

    private Link ownLink(int e) {
        return find(backEdges.contains(e) ? Kind.END : Kind.PLAIN, e);
    }

    /** All rows of links from block b to EXIT, in the order of ways. */
    private List<List<Link>> rowsFrom(int b) {
        List<List<Link>> rows = new ArrayList<>();
        if (b == EXIT) {
            rows.add(new ArrayList<>());
            return rows;
        }
        for (Link link : links) {
            if (link.from() == b) {
                for (List<Link> rest : rowsFrom(link.to())) {
                    List<Link> row = new ArrayList<>();
                    row.add(link);
                    row.addAll(rest);
                    rows.add(row);
                }
            }
        }
        return rows;
    }

    private int value(Link link) {
        int before = 0;
        for (List<Link> row : rowsFrom(link.from())) {
            if (links.indexOf(row.get(0)) < links.indexOf(link)) {
                before++;
            }
        }
        return before;
    }

    private boolean areJoined(int a, int b, List<int[]> joints) {
        boolean[] near = new boolean[n];
        near[a] = true;
        for (int round = 0; round < n; round++) {
            for (int[] j : joints) {
                if (near[j[0]] || near[j[1]]) {
                    near[j[0]] = true;
                    near[j[1]] = true;
                }
            }
            if (near[ENTRY] || near[EXIT]) {
                near[ENTRY] = true;
                near[EXIT] = true;
            }
        }
        return near[b];
    }

    private boolean inTree(int e) {
        List<int[]> before = new ArrayList<>();
        for (int f : edgeOrder) {
            if (f == e) {
                return !areJoined(from(e), to(e), before);
            }
            before.add(edges.get(f));
        }
        return false;
    }

    private List<Link> linkTree() {
        List<Link> order = new ArrayList<>();
        for (int e : edgeOrder) {
            if (!backEdges.contains(e)) {
                order.add(ownLink(e));
            }
        }
        for (Kind kind : new Kind[] {Kind.START, Kind.END}) {
            for (int e = 0; e < edges.size(); e++) {
                if (backEdges.contains(e)) {
                    order.add(find(kind, e));
                }
            }
        }
        List<int[]> before = new ArrayList<>();
        List<Link> tree = new ArrayList<>();
        for (Link link : order) {
            if (!areJoined(link.from(), link.to(), before)) {
                tree.add(link);
            }
            before.add(new int[] {link.from(), link.to()});
        }
        return tree;
    }

    private Integer[] allBases() {
        Integer[] found = new Integer[n];
        found[ENTRY] = 0;
        found[EXIT] = 0;
        List<Link> tree = linkTree();
        for (int round = 0; round < n; round++) {
            for (Link link : tree) {
                if (found[link.from()] != null) {
                    found[link.to()] = found[link.from()] + value(link);
                } else if (found[link.to()] != null) {
                    found[link.from()] = found[link.to()] - value(link);
                }
            }
        }
        return found;
    }

    private int incrementOf(Link link) {
        return value(link) + bases[link.from()] - bases[link.to()];
    }

    boolean back(int e) {
        return sealed && backEdges.contains(e);
    }

    int depth(int b) {
        return sealed && isBlock(b) ? depths[b] : -1;
    }

    boolean probe(int e) {
        return sealed && isEdge(e) && !inTree(e);
    }

    int increment(int e) {
        return sealed && isEdge(e) ? incrementOf(ownLink(e)) : NONE;
    }

    int reset(int e) {
        return back(e) ? incrementOf(find(Kind.START, e)) : NONE;
    }

    boolean start() {
        if (!sealed || where >= 0) {
            return false;
        }
        where = ENTRY;
        begun++;
        visits[ENTRY]++;
        present = new ArrayList<>();
        return true;
    }

    int take(int e) {
        if (where < 0 || !isEdge(e) || from(e) != where) {
            return -1;
        }
        counts[e]++;
        visits[to(e)]++;
        present.add(ownLink(e));
        where = to(e);
        if (backEdges.contains(e)) {
            completed[ways.indexOf(present)]++;
            present = new ArrayList<>();
            present.add(find(Kind.START, e));
        } else if (where == EXIT) {
            completed[ways.indexOf(present)]++;
            ended++;
            endRun();
        }
        return to(e);
    }

    private void endRun() {
        where = -1;
        present = new ArrayList<>();
    }

    int walk(int picks, int many) {
        if (where < 0 || many < 0 || many > 16) {
            return -1;
        }
        int rest = picks;
        int done = 0;
        while (done < many && where >= 0) {
            List<Integer> choice = new ArrayList<>();
            for (int e = 0; e < edges.size(); e++) {
                if (from(e) == where) {
                    choice.add(e);
                }
            }
            take(choice.get((rest & 3) % choice.size()));
            rest = rest >>> 2;
            done++;
        }
        return done;
    }

    int stop() {
        int last = where;
        if (last >= 0) {
            stops[last]++;
            endRun();
        }
        return last;
    }

    int at() {
        return where;
    }

    int register() {
        int sum = 0;
        for (Link link : present) {
            sum += incrementOf(link);
        }
        return sum;
    }

    int count(int e) {
        return sealed && isEdge(e) ? counts[e] : -1;
    }

    int visits(int b) {
        return sealed && isBlock(b) ? visits[b] : -1;
    }

    private boolean isWay(int w) {
        return sealed && w >= 0 && w < ways.size();
    }

    int passed(int w) {
        return isWay(w) ? completed[w] : -1;
    }

    int along(int w, int k) {
        if (!isWay(w) || k < 0) {
            return NONE;
        }
        List<Integer> row = new ArrayList<>();
        row.add(-1);
        for (Link link : ways.get(w)) {
            if (link.kind() == Kind.START) {
                row.set(0, link.edge());
            } else {
                row.add(link.edge());
            }
        }
        return k < row.size() ? row.get(k) : NONE;
    }

    int stopped(int b) {
        return sealed && isBlock(b) ? stops[b] : -1;
    }

    private static int positive(int[] row) {
        int many = 0;
        for (int i : row) {
            many += i > 0 ? 1 : 0;
        }
        return many;
    }

    int covered(int what) {
        if (!sealed) {
            return -1;
        }
        int[] all = {positive(visits), positive(counts), positive(completed), begun, ended};
        return what >= 0 && what < all.length ? all[what] : -1;
    }

    void clear() {
        counts = new int[24];
        visits = new int[12];
        stops = new int[12];
        completed = new int[200];
        begun = 0;
        ended = 0;
        endRun();
    }
}
