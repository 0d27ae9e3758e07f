import java.util.Arrays;

/**
 * Least ways from up to three sources, kept while the arcs of a net come, change and go.
 *
 * <p>Nothing is made after the constructor: every call works in the same rows.
 */
public final class KeptPaths {
    public static final int NONE = -1000000, BAD = -2000000, FULL = -3000000, TURN = -4000000, REFUSED = -5000000;

    private static final int MOST_NODES = 24;
    private static final int MOST_SOURCES = 3;
    private static final int MOST_LENGTH = 1000;
    private static final int MOST_KEPT = 40;
    private static final int MOST_BATCH_CHANGES = 30;
    private static final int NO_NODE = -1;
    private static final int HOW_MANY = -1;

    private final Net net = new Net();
    private final History history = new History();
    private final Source[] sources = new Source[MOST_SOURCES];
    private final LeastWays waysBack = new LeastWays();
    private final int[] ringNodes = new int[MOST_NODES];
    private int ringSize = 0;
    private boolean inBatch = false;
    private int changesInAll = 0;

    public KeptPaths() {
        for (int k = 0; k < MOST_SOURCES; k++) {
            sources[k] = new Source();
        }
    }

    // ---- the net

    public int node() {
        if (inBatch) {
            return TURN;
        }
        if (net.nodes >= MOST_NODES) {
            return FULL;
        }
        return net.addNode();
    }

    public int source(int k, int v) {
        if (!isSource(k) || v != NO_NODE && !net.isNode(v)) {
            return BAD;
        }
        if (inBatch) {
            return TURN;
        }
        int was = sources[k].place;
        sources[k].moveTo(v, net);
        return was;
    }

    public int put(int a, int b, int length) {
        if (!net.areTwoNodes(a, b) || length < -MOST_LENGTH || length > MOST_LENGTH) {
            return BAD;
        }
        if (isBatchFull()) {
            return FULL;
        }
        if (wouldFall(a, b, length)) {
            keepRing(a);
            return REFUSED;
        }
        return change(a, b, length);
    }

    public int take(int a, int b) {
        if (!net.areTwoNodes(a, b)) {
            return BAD;
        }
        if (isBatchFull()) {
            return FULL;
        }
        if (net.lengthOf(a, b) == NONE) {
            return NONE;
        }
        return change(a, b, NONE);
    }

    public int arc(int a, int b) {
        return net.areTwoNodes(a, b) ? net.lengthOf(a, b) : BAD;
    }

    // ---- batches, undo

    public int begin() {
        if (inBatch) {
            return TURN;
        }
        inBatch = true;
        return 1;
    }

    public int end() {
        if (!inBatch) {
            return TURN;
        }
        int changes = history.openChanges();
        inBatch = false;
        if (changes > 0) {
            history.keepOpen();
        }
        recountSources();
        return changes;
    }

    public int undo() {
        if (inBatch) {
            return TURN;
        }
        if (history.kept == 0) {
            return NONE;
        }
        history.takeBackLatest(net);
        recountSources();
        return history.kept;
    }

    // ---- what is kept

    public int distance(int k, int v) {
        return isSource(k) && net.isNode(v) ? sources[k].told.distances[v] : BAD;
    }

    public int hops(int k, int v) {
        return isSource(k) && net.isNode(v) ? sources[k].told.hopCounts[v] : BAD;
    }

    public int parent(int k, int v) {
        return isSource(k) && net.isNode(v) ? sources[k].told.parents[v] : BAD;
    }

    public int way(int k, int v, int i) {
        if (!isSource(k) || !net.isNode(v)) {
            return BAD;
        }
        LeastWays ways = sources[k].told;
        if (!ways.reaches(v)) {
            return NONE;
        }
        int size = ways.sizeOfWay(v);
        if (i == HOW_MANY) {
            return size;
        }
        return i >= 0 && i < size ? ways.nodeOnWay(v, i) : BAD;
    }

    public int affected(int k) {
        return isSource(k) ? sources[k].affectedNodes : BAD;
    }

    public int tight(int k) {
        return isSource(k) ? sources[k].told.tightArcs : BAD;
    }

    public int ring(int i) {
        if (i == HOW_MANY) {
            return ringSize;
        }
        return i >= 0 && i < ringSize ? ringNodes[i] : BAD;
    }

    public int count(int what) {
        switch (what) {
            case 0:
                return net.nodes;
            case 1:
                return net.arcs;
            case 2:
                return history.kept;
            case 3:
                return history.openChanges();
            case 4:
                return inBatch ? 1 : 0;
            case 5:
                return changesInAll;
            default:
                return BAD;
        }
    }

    // ---- what the calls share

    private static boolean isSource(int k) {
        return k >= 0 && k < MOST_SOURCES;
    }

    private boolean isBatchFull() {
        return inBatch && history.openChanges() >= MOST_BATCH_CHANGES;
    }

    /**
     * Leaves the ways from b in waysBack. The arc from a to b need not be taken out for this: it
     * leads back to where the ways begin, so, as no ring falls, it is on none of them.
     */
    private boolean wouldFall(int a, int b, int length) {
        waysBack.settle(net, b);
        return waysBack.reaches(a) && waysBack.distances[a] + length < 0;
    }

    private void keepRing(int a) {
        ringSize = waysBack.sizeOfWay(a);
        for (int i = 0; i < ringSize; i++) {
            ringNodes[i] = waysBack.nodeOnWay(a, i);
        }
    }

    /** Gives the arc this length (NONE: the arc goes), and answers what it had. */
    private int change(int a, int b, int length) {
        int had = net.lengthOf(a, b);
        history.note(a, b, had);
        net.setLength(a, b, length);
        changesInAll++;
        if (!inBatch) {
            history.keepOpen();
            recountSources();
        }
        return had;
    }

    private void recountSources() {
        for (int k = 0; k < MOST_SOURCES; k++) {
            sources[k].recount(net);
        }
    }

    /** The nodes and arcs as they are told, those of an open batch too. */
    private static final class Net {
        int nodes = 0;
        int arcs = 0;
        private final int[] lengths = new int[MOST_NODES * MOST_NODES];

        Net() {
            Arrays.fill(lengths, NONE);
        }

        int addNode() {
            return nodes++;
        }

        boolean isNode(int v) {
            return v >= 0 && v < nodes;
        }

        boolean areTwoNodes(int a, int b) {
            return isNode(a) && isNode(b) && a != b;
        }

        int lengthOf(int a, int b) {
            return lengths[a * MOST_NODES + b];
        }

        void setLength(int a, int b, int length) {
            int had = lengthOf(a, b);
            if (had == NONE && length != NONE) {
                arcs++;
            }
            if (had != NONE && length == NONE) {
                arcs--;
            }
            lengths[a * MOST_NODES + b] = length;
        }
    }

    /** The least ways from one node in the net as it was when they were settled. */
    private static final class LeastWays {
        final int[] distances = new int[MOST_NODES];
        final int[] hopCounts = new int[MOST_NODES];
        final int[] parents = new int[MOST_NODES];
        int tightArcs = 0;

        LeastWays() {
            clear();
        }

        private void clear() {
            Arrays.fill(distances, NONE);
            Arrays.fill(hopCounts, NONE);
            Arrays.fill(parents, NONE);
            tightArcs = 0;
        }

        /** Without a start (NO_NODE) nothing is reached. */
        void settle(Net net, int start) {
            clear();
            if (!net.isNode(start)) {
                return;
            }
            distances[start] = 0;
            hopCounts[start] = 0;
            // A least way with the fewest arcs has fewer arcs than there are nodes, so as many
            // rounds as nodes are enough.
            int improved = 1 << start;
            for (int round = 0; round < net.nodes && improved != 0; round++) {
                int goOnFrom = improved;
                improved = 0;
                for (int u = 0; u < net.nodes; u++) {
                    if ((goOnFrom >> u & 1) != 0) {
                        improved |= followArcs(u, net);
                    }
                }
            }
            for (int u = 0; u < net.nodes; u++) {
                if (reaches(u)) {
                    findTightArcs(u, net);
                }
            }
        }

        /** Answers the nodes to which a better way was found, as bits. */
        private int followArcs(int u, Net net) {
            int improved = 0;
            for (int v = 0; v < net.nodes; v++) {
                int length = net.lengthOf(u, v);
                if (length != NONE && isBetter(v, distances[u] + length, hopCounts[u] + 1)) {
                    distances[v] = distances[u] + length;
                    hopCounts[v] = hopCounts[u] + 1;
                    improved |= 1 << v;
                }
            }
            return improved;
        }

        private boolean isBetter(int v, int distance, int hopCount) {
            return distances[v] == NONE || distance < distances[v]
                    || distance == distances[v] && hopCount < hopCounts[v];
        }

        /** To be called for u going up: then the first parent that is found is the least. */
        private void findTightArcs(int u, Net net) {
            for (int v = 0; v < net.nodes; v++) {
                int length = net.lengthOf(u, v);
                if (length != NONE && distances[u] + length == distances[v]) {
                    tightArcs++;
                    if (parents[v] == NONE && hopCounts[u] + 1 == hopCounts[v]) {
                        parents[v] = u;
                    }
                }
            }
        }

        boolean reaches(int v) {
            return distances[v] != NONE;
        }

        int sizeOfWay(int v) {
            return hopCounts[v] + 1;
        }

        int nodeOnWay(int v, int i) {
            int node = v;
            for (int hop = hopCounts[v]; hop > i && node >= 0; hop--) {
                node = parents[node];
            }
            return node;
        }

        int differingNodes(LeastWays other) {
            int nodes = 0;
            for (int v = 0; v < MOST_NODES; v++) {
                if (distances[v] != other.distances[v] || hopCounts[v] != other.hopCounts[v]
                        || parents[v] != other.parents[v]) {
                    nodes |= 1 << v;
                }
            }
            return nodes;
        }
    }

    /** One source: its ways as they are told, and what the latest count did to them. */
    private static final class Source {
        int place = NO_NODE;
        int affectedNodes = 0;
        LeastWays told = new LeastWays();
        private LeastWays spare = new LeastWays();

        void moveTo(int node, Net net) {
            place = node;
            told.settle(net, node);
            affectedNodes = 0;
        }

        void recount(Net net) {
            LeastWays before = told;
            spare.settle(net, place);
            affectedNodes = spare.differingNodes(before);
            told = spare;
            spare = before;
        }
    }

    /**
     * What the changes that are kept took the place of. An entry is one change outside of batches,
     * or one batch. One slot more than can be kept is there for the open entry: a batch may end
     * without changes, and must not have cost the oldest entry then.
     */
    private static final class History {
        private static final int SLOTS = MOST_KEPT + 1;

        int kept = 0;
        private int oldest = 0;
        private final int[] sizes = new int[SLOTS];
        private final int[] begins = new int[SLOTS * MOST_BATCH_CHANGES];
        private final int[] ends = new int[SLOTS * MOST_BATCH_CHANGES];
        private final int[] lengths = new int[SLOTS * MOST_BATCH_CHANGES];

        private int openSlot() {
            return (oldest + kept) % SLOTS;
        }

        int openChanges() {
            return sizes[openSlot()];
        }

        /** The arc from a to b had this length (NONE: was not there). */
        void note(int a, int b, int length) {
            int slot = openSlot();
            if (sizes[slot] >= MOST_BATCH_CHANGES) {
                return;
            }
            int at = slot * MOST_BATCH_CHANGES + sizes[slot];
            begins[at] = a;
            ends[at] = b;
            lengths[at] = length;
            sizes[slot]++;
        }

        void keepOpen() {
            if (kept < MOST_KEPT) {
                kept++;
            } else {
                oldest = (oldest + 1) % SLOTS;
            }
            sizes[openSlot()] = 0;
        }

        /** The slot of the latest entry is the open one from here on. */
        void takeBackLatest(Net net) {
            if (kept == 0) {
                return;
            }
            kept--;
            int slot = openSlot();
            // Backwards, as a batch may have changed one arc more than once.
            for (int i = sizes[slot] - 1; i >= 0; i--) {
                int at = slot * MOST_BATCH_CHANGES + i;
                net.setLength(begins[at], ends[at], lengths[at]);
            }
            sizes[slot] = 0;
        }
    }
}
