/** Graphs that several tests use, and all that can be asked of one. */
final class Sample {
    static final int NONE = Integer.MIN_VALUE;
    /** Numbers far from all that is there; some would be an edge or a block if their high bits were lost. */
    static final int[] FAR = {
        Integer.MIN_VALUE, Integer.MIN_VALUE + 1, Integer.MIN_VALUE + 2, -65534, -254, -30, -24, -12, -2, -1,
        201, 258, 1 << 16 | 2, 1 << 30, Integer.MAX_VALUE - 1, Integer.MAX_VALUE,
    };

    private Sample() { }

    static SpanningProbes graph(int n, int... ends) {
        SpanningProbes x = new SpanningProbes(n);
        for (int i = 0; i < ends.length; i += 2) {
            x.edge(ends[i], ends[i + 1]);
        }
        return x;
    }

    static SpanningProbes sealed(int n, int... ends) {
        SpanningProbes x = graph(n, ends);
        int ways = x.seal();
        if (ways < 1) {
            System.out.println("a graph that is due to be sealed answered " + ways);
            System.exit(1);
        }
        return x;
    }

    static void addMany(SpanningProbes x, int from, int to, int many) {
        for (int i = 0; i < many; i++) {
            x.edge(from, to);
        }
    }

    /** The numbers that are due to be none of the first so many. */
    static int[] numbersBeyond(int many) {
        int[] near = {many, many + 1, many + 32, many + 64};
        int[] all = new int[FAR.length + near.length];
        System.arraycopy(FAR, 0, all, 0, FAR.length);
        System.arraycopy(near, 0, all, FAR.length, near.length);
        return all;
    }

    /** The ends of the six edges of nested(). */
    static int[] nestedEnds() {
        return new int[] {0, 1, 0, 2, 2, 2, 2, 3, 3, 2, 3, 1};
    }

    /**
     * Ten ways; edges 2 and 4 are back. Values: 0, 1, 0, 1, 0, 1; STARTs 4 and 7; bases of blocks 2
     * and 3: 1 and 2. Ways: 0 | 1 2 | 1 3 4 | 1 3 5 | (2) 2 | (2) 3 4 | (2) 3 5 | (4) 2 | (4) 3 4 |
     * (4) 3 5.
     */
    static SpanningProbes nested() {
        return sealed(4, nestedEnds());
    }

    static void take(SpanningProbes x, int... edges) {
        for (int e : edges) {
            if (x.take(e) < 0) {
                System.out.println("an edge that is due to be passed was refused: " + e);
                System.exit(1);
            }
        }
    }

    /** A run over edges 1 2 3 4 3 5, which completes the ways 1, 5 and 9. */
    static void runNested(SpanningProbes x) {
        x.start();
        take(x, 1, 2, 3, 4, 3, 5);
    }

    /** Blocks 0 2 3 .. 11 1 in a row. */
    static SpanningProbes chainOfTwelve() {
        return sealed(12, 0, 2, 2, 3, 3, 4, 4, 5, 5, 6, 6, 7, 7, 8, 8, 9, 9, 10, 10, 11, 11, 1);
    }

    /**
     * As many edges and ways as there may be: edges 0 .. 3 from ENTRY to block 2, edges 4 .. 9 from
     * block 2 to itself, edges 10 .. 23 to EXIT: (4 + 6) * (6 + 14) ways.
     */
    static SpanningProbes full() {
        SpanningProbes x = new SpanningProbes(3);
        addMany(x, 0, 2, 4);
        addMany(x, 2, 2, 6);
        addMany(x, 2, 1, 14);
        return x;
    }

    /** All that can be asked of a graph that has no more than 4 blocks, 6 edges and 10 ways. */
    static String allOf(SpanningProbes x) {
        StringBuilder s = new StringBuilder();
        s.append("at ").append(x.at()).append(" register ").append(x.register());
        for (int e = 0; e <= 6; e++) {
            s.append(" | edge ").append(e).append(' ').append(x.back(e)).append(' ').append(x.probe(e));
            s.append(' ').append(x.increment(e)).append(' ').append(x.reset(e)).append(' ').append(x.count(e));
        }
        for (int b = 0; b <= 4; b++) {
            s.append(" | block ").append(b).append(' ').append(x.depth(b));
            s.append(' ').append(x.visits(b)).append(' ').append(x.stopped(b));
        }
        for (int w = 0; w <= 10; w++) {
            s.append(" | way ").append(w).append(' ').append(x.passed(w));
            for (int k = 0; k <= 4; k++) {
                s.append(' ').append(x.along(w, k));
            }
        }
        for (int what = 0; what <= 4; what++) {
            s.append(" | covered ").append(x.covered(what));
        }
        return s.toString();
    }
}
