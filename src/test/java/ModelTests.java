import java.util.ArrayList;
import java.util.List;
import java.util.Random;

/**
 * Long runs of calls, the same each time, against a second program that works straight from the
 * document's definitions: it holds whole nets, takes them back whole, and finds least ways by their
 * exact number of arcs.
 */
public final class ModelTests {
    private static final int NONE = -1000000, BAD = -2000000, FULL = -3000000, TURN = -4000000, REFUSED = -5000000;
    private static final int CALLS = 512;
    private static int wrong = 0;

    public static void main(String[] args) {
        for (int run = 0; run < 600 && wrong == 0; run++) {
            oneRun(run);
        }
        for (int run = 0; run < 20 && wrong == 0; run++) {
            farBeyond(run);
        }
        System.out.println(wrong == 0 ? "all answers are as due" : wrong + " answers are not as due");
        if (wrong != 0) {
            System.exit(1);
        }
    }

    /** What is usual in a run differs from run to run: how many nodes, which lengths, how many batches. */
    private static final class Habits {
        final int nodes, least, span, batches, undos, wrongInputs;

        Habits(Random random) {
            int[] sizes = {2, 3, 4, 5, 6, 8, 12, 24};
            int[][] lengths = {{-1, 3}, {-3, 9}, {0, 2}, {-1000, 2001}, {-20, 100}, {1, 3}};
            nodes = sizes[random.nextInt(sizes.length)];
            int[] length = lengths[random.nextInt(lengths.length)];
            least = length[0];
            span = length[1];
            batches = random.nextInt(3);
            undos = random.nextInt(3) * 4;
            wrongInputs = random.nextInt(3);
        }
    }

    private static void oneRun(int seed) {
        // Seeds that follow one another begin alike, so they are spread.
        Random random = new Random(seed * 0x9E3779B97F4A7C15L);
        Habits habits = new Habits(random);
        KeptPaths x = new KeptPaths();
        Model model = new Model();
        List<String> told = new ArrayList<>();
        int[] call = new int[4];
        int calls = habits.nodes + 3;
        for (int i = 0; i < calls; i++) {
            set(call, i < habits.nodes ? 0 : 1, i - habits.nodes, random.nextInt(habits.nodes), 0);
            same(x, model, call, told, seed);
        }
        while (calls < CALLS && wrong == 0) {
            chooseCall(call, random, habits);
            same(x, model, call, told, seed);
            calls++;
            if (call[0] <= 8 && random.nextInt(4) == 0) {
                // What the change did, by one source or one node.
                int k = random.nextInt(3);
                int v = random.nextInt(habits.nodes);
                for (int what = 9; what <= 14 && wrong == 0; what++) {
                    set(call, what, k, v, random.nextInt(5) - 1);
                    same(x, model, call, told, seed);
                    calls++;
                }
            }
        }
        everything(x, model, habits, told, seed);
    }

    private static void set(int[] call, int what, int a, int b, int c) {
        call[0] = what;
        call[1] = a;
        call[2] = b;
        call[3] = c;
    }

    private static void chooseCall(int[] call, Random random, Habits habits) {
        int n = habits.nodes;
        int a = random.nextInt(n);
        int b = random.nextInt(20) == 0 ? a : (a + 1 + random.nextInt(n - 1)) % n;
        int length = habits.least + random.nextInt(habits.span);
        if (random.nextInt(12) < habits.wrongInputs) {
            int[] odd = {-2, -1, 3, 24, n, 30, 1001, -1001, Integer.MIN_VALUE, Integer.MAX_VALUE};
            set(call, random.nextInt(16), random.nextInt(3), a, random.nextInt(n));
            call[1 + random.nextInt(3)] = odd[random.nextInt(odd.length)];
            return;
        }
        int choice = random.nextInt(60);
        if (choice < 24) {
            set(call, 2, a, b, length);
        } else if (choice < 32) {
            set(call, 3, a, b, 0);
        } else if (choice < 32 + habits.batches) {
            set(call, 5, 0, 0, 0);
        } else if (choice < 34 + habits.batches) {
            set(call, habits.batches == 0 ? 4 : 6, a, b, 0);
        } else if (choice < 36 + habits.undos) {
            set(call, 7, 0, 0, 0);
        } else if (choice < 48) {
            set(call, 2, a, b, length);
        } else if (choice < 50) {
            set(call, random.nextInt(2), random.nextInt(3), random.nextInt(n + 1) - 1, 0);
        } else if (choice < 52) {
            set(call, 15, random.nextInt(n + 2) - 1, 0, 0);
        } else if (choice < 54) {
            set(call, 8, random.nextInt(6), 0, 0);
        } else {
            set(call, 9 + random.nextInt(6), random.nextInt(3), a, random.nextInt(6) - 1);
        }
    }

    private static int ask(KeptPaths x, int[] c) {
        switch (c[0]) {
            case 0: return x.node();
            case 1: return x.source(c[1], c[2]);
            case 2: return x.put(c[1], c[2], c[3]);
            case 3: return x.take(c[1], c[2]);
            case 4: return x.arc(c[1], c[2]);
            case 5: return x.begin();
            case 6: return x.end();
            case 7: return x.undo();
            case 8: return x.count(c[1]);
            case 9: return x.distance(c[1], c[2]);
            case 10: return x.hops(c[1], c[2]);
            case 11: return x.parent(c[1], c[2]);
            case 12: return x.way(c[1], c[2], c[3]);
            case 13: return x.affected(c[1]);
            case 14: return x.tight(c[1]);
            default: return x.ring(c[1]);
        }
    }

    private static final String[] NAMES = {"node", "source", "put", "take", "arc", "begin", "end", "undo", "count",
        "distance", "hops", "parent", "way", "affected", "tight", "ring"};
    private static final int[] ARGUMENTS = {0, 2, 3, 2, 2, 0, 0, 0, 1, 2, 2, 2, 3, 1, 1, 1};

    private static String name(int[] call) {
        StringBuilder text = new StringBuilder(NAMES[call[0]]).append('(');
        for (int i = 0; i < ARGUMENTS[call[0]]; i++) {
            text.append(i == 0 ? "" : ", ").append(call[1 + i]);
        }
        return text.append(')').toString();
    }

    private static void same(KeptPaths x, Model model, int[] call, List<String> told, int run) {
        int want = model.answer(call);
        int got = ask(x, call);
        told.add(name(call) + " = " + got);
        if (got != want) {
            wrong++;
            for (String line : told) {
                System.out.println(line);
            }
            System.out.println("run " + run + ": " + name(call) + " answered " + got + ", due is " + want);
        }
    }

    private static void everything(KeptPaths x, Model model, Habits habits, List<String> told, int run) {
        int[] call = new int[4];
        for (int what = 4; what <= 15; what++) {
            for (int a = -1; a <= habits.nodes; a++) {
                for (int b = -1; b <= habits.nodes && what != 5 && what != 6 && what != 7; b++) {
                    for (int i = -2; i <= (what == 12 ? habits.nodes : -2) && wrong == 0; i++) {
                        set(call, what, a, b, i);
                        same(x, model, call, told, run);
                    }
                }
            }
        }
    }

    /** What is answered behind the 512th call is free, but every call ends, and none throws. */
    private static void farBeyond(int seed) {
        Random random = new Random(1000 + seed);
        KeptPaths x = new KeptPaths();
        int[] call = new int[4];
        for (int i = 0; i < 20000; i++) {
            call[0] = random.nextInt(16);
            for (int at = 1; at <= 3; at++) {
                int kind = random.nextInt(40);
                call[at] = kind == 0 ? random.nextInt() : kind == 1 ? Integer.MIN_VALUE : random.nextInt(27) - 2;
            }
            try {
                ask(x, call);
            } catch (RuntimeException thrown) {
                wrong++;
                System.out.println("call " + i + " of run " + seed + ": " + name(call) + " threw " + thrown);
                return;
            }
        }
    }

    /** DISTANCE, HOPS and PARENT of every node by one source. */
    private static final class Labels {
        final int[] distance = new int[24], hops = new int[24], parent = new int[24];

        Labels(Integer[][] net, int nodes, int from) {
            for (int v = 0; v < 24; v++) {
                distance[v] = hops[v] = parent[v] = NONE;
            }
            if (from < 0) {
                return;
            }
            Integer[] exact = new Integer[24];
            exact[from] = 0;
            for (int arcs = 0; arcs <= nodes; arcs++) {
                for (int v = 0; v < nodes; v++) {
                    if (exact[v] != null && (distance[v] == NONE || exact[v] < distance[v])) {
                        distance[v] = exact[v];
                        hops[v] = arcs;
                    }
                }
                exact = oneArcMore(exact, net, nodes);
            }
            for (int v = 0; v < nodes; v++) {
                for (int u = nodes - 1; u >= 0 && v != from; u--) {
                    if (net[u][v] != null && distance[u] != NONE && distance[u] + net[u][v] == distance[v]
                            && hops[u] + 1 == hops[v]) {
                        parent[v] = u;
                    }
                }
            }
        }

        private static Integer[] oneArcMore(Integer[] exact, Integer[][] net, int nodes) {
            Integer[] next = new Integer[24];
            for (int u = 0; u < nodes; u++) {
                for (int v = 0; v < nodes; v++) {
                    if (exact[u] != null && net[u][v] != null
                            && (next[v] == null || exact[u] + net[u][v] < next[v])) {
                        next[v] = exact[u] + net[u][v];
                    }
                }
            }
            return next;
        }

        List<Integer> way(int v) {
            List<Integer> nodes = new ArrayList<>();
            for (int at = v; at != NONE; at = parent[at]) {
                nodes.add(0, at);
            }
            return nodes;
        }
    }

    private static final class Model {
        private int nodes = 0, changes = 0, batchChanges = 0;
        private Integer[][] net = new Integer[24][24];
        private Integer[][] counted = new Integer[24][24];
        private Integer[][] aheadOfBatch = null;
        private final List<Integer[][]> kept = new ArrayList<>();
        private final int[] sources = {-1, -1, -1};
        private final int[] affected = new int[3];
        private List<Integer> ring = new ArrayList<>();

        private static Integer[][] copy(Integer[][] net) {
            Integer[][] other = new Integer[24][];
            for (int a = 0; a < 24; a++) {
                other[a] = net[a].clone();
            }
            return other;
        }

        private boolean isNode(int v) {
            return 0 <= v && v < nodes;
        }

        private boolean isSource(int k) {
            return k == 0 || k == 1 || k == 2;
        }

        int answer(int[] c) {
            switch (c[0]) {
                case 0: return aheadOfBatch != null ? TURN : nodes == 24 ? FULL : nodes++;
                case 1: return source(c[1], c[2]);
                case 2: case 3: case 4: return arcCall(c);
                case 5: return begin();
                case 6: return end();
                case 7: return undo();
                case 8: return count(c[1]);
                case 13: return isSource(c[1]) ? affected[c[1]] : BAD;
                case 14: return isSource(c[1]) ? tight(sources[c[1]]) : BAD;
                case 15: return c[1] == -1 ? ring.size() : c[1] >= 0 && c[1] < ring.size() ? ring.get(c[1]) : BAD;
                default: return kept(c);
            }
        }

        private int source(int k, int v) {
            if (!isSource(k) || v != -1 && !isNode(v)) {
                return BAD;
            }
            if (aheadOfBatch != null) {
                return TURN;
            }
            int was = sources[k];
            sources[k] = v;
            affected[k] = 0;
            return was;
        }

        private int arcCall(int[] c) {
            int a = c[1], b = c[2];
            boolean put = c[0] == 2;
            if (!isNode(a) || !isNode(b) || a == b || put && Math.abs((long) c[3]) > 1000) {
                return BAD;
            }
            int had = net[a][b] == null ? NONE : net[a][b];
            if (c[0] == 4) {
                return had;
            }
            if (aheadOfBatch != null && batchChanges == 30) {
                return FULL;
            }
            if (put && isRefused(a, b, c[3])) {
                return REFUSED;
            }
            if (!put && had == NONE) {
                return NONE;
            }
            Integer[][] ahead = copy(net);
            net[a][b] = put ? (Integer) c[3] : null;
            changes++;
            if (aheadOfBatch != null) {
                batchChanges++;
            } else {
                keep(ahead);
                countNow();
            }
            return had;
        }

        private boolean isRefused(int a, int b, int length) {
            Integer[][] without = copy(net);
            without[a][b] = null;
            Labels back = new Labels(without, nodes, b);
            if (back.distance[a] == NONE || back.distance[a] + length >= 0) {
                return false;
            }
            ring = back.way(a);
            return true;
        }

        private void keep(Integer[][] ahead) {
            kept.add(ahead);
            if (kept.size() > 40) {
                kept.remove(0);
            }
        }

        private void countNow() {
            for (int k = 0; k < 3; k++) {
                Labels before = new Labels(counted, nodes, sources[k]);
                Labels now = new Labels(net, nodes, sources[k]);
                affected[k] = 0;
                for (int v = 0; v < nodes; v++) {
                    if (before.distance[v] != now.distance[v] || before.hops[v] != now.hops[v]
                            || before.parent[v] != now.parent[v]) {
                        affected[k] += 1 << v;
                    }
                }
            }
            counted = copy(net);
        }

        private int begin() {
            if (aheadOfBatch != null) {
                return TURN;
            }
            aheadOfBatch = copy(net);
            batchChanges = 0;
            return 1;
        }

        private int end() {
            if (aheadOfBatch == null) {
                return TURN;
            }
            if (batchChanges > 0) {
                keep(aheadOfBatch);
            }
            aheadOfBatch = null;
            countNow();
            int had = batchChanges;
            batchChanges = 0;
            return had;
        }

        private int undo() {
            if (aheadOfBatch != null) {
                return TURN;
            }
            if (kept.isEmpty()) {
                return NONE;
            }
            net = kept.remove(kept.size() - 1);
            countNow();
            return kept.size();
        }

        private int arcs() {
            int arcs = 0;
            for (Integer[] row : net) {
                for (Integer length : row) {
                    arcs += length == null ? 0 : 1;
                }
            }
            return arcs;
        }

        private int count(int what) {
            switch (what) {
                case 0: return nodes;
                case 1: return arcs();
                case 2: return kept.size();
                case 3: return batchChanges;
                case 4: return aheadOfBatch == null ? 0 : 1;
                case 5: return changes;
                default: return BAD;
            }
        }

        private int tight(int from) {
            Labels labels = new Labels(counted, nodes, from);
            int tight = 0;
            for (int a = 0; a < nodes; a++) {
                for (int b = 0; b < nodes; b++) {
                    if (counted[a][b] != null && labels.distance[a] != NONE && labels.distance[b] != NONE
                            && labels.distance[a] + counted[a][b] == labels.distance[b]) {
                        tight++;
                    }
                }
            }
            return tight;
        }

        private int kept(int[] c) {
            if (!isSource(c[1]) || !isNode(c[2])) {
                return BAD;
            }
            Labels labels = new Labels(counted, nodes, sources[c[1]]);
            int v = c[2], i = c[3];
            if (labels.distance[v] == NONE) {
                return NONE;
            }
            if (c[0] != 12) {
                return c[0] == 9 ? labels.distance[v] : c[0] == 10 ? labels.hops[v] : labels.parent[v];
            }
            List<Integer> way = labels.way(v);
            return i == -1 ? way.size() : i >= 0 && i < way.size() ? way.get(i) : BAD;
        }
    }
}
