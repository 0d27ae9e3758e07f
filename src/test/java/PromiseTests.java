/** For each promise of the document: ordinary inputs, the edges that it names, and wrong inputs. */
public final class PromiseTests {
    private static final int NONE = -1000000, BAD = -2000000, FULL = -3000000, TURN = -4000000, REFUSED = -5000000;
    private static final int[] NO_NODES = {-1, 4, 24, Integer.MIN_VALUE, Integer.MAX_VALUE};
    private static final int[] NO_SOURCES = {-1, 3, Integer.MIN_VALUE, Integer.MAX_VALUE};

    private static int wrong = 0;

    private static void due(String call, int got, int want) {
        if (got != want) {
            wrong++;
            System.out.println(call + " answered " + got + ", due is " + want);
        }
    }

    private static KeptPaths withNodes(int nodes) {
        KeptPaths x = new KeptPaths();
        for (int v = 0; v < nodes; v++) {
            x.node();
        }
        return x;
    }

    /** 0 -> 1 -> 2 -> .. along arcs of this length, with source 0 at node 0. */
    private static KeptPaths chain(int nodes, int length) {
        KeptPaths x = withNodes(nodes);
        x.source(0, 0);
        for (int v = 0; v + 1 < nodes; v++) {
            x.put(v, v + 1, length);
        }
        return x;
    }

    public static void main(String[] args) {
        promise1New();
        promise2Node();
        promise3Source();
        promise4Put();
        promise4Refused();
        promise5Take();
        promise6Arc();
        promise7Begin();
        promise8End();
        promise8BatchIsToldLate();
        promise9Undo();
        promise9UndoOfBatches();
        promise9LatestForty();
        promise10Distance();
        promise11Hops();
        promise12Parent();
        promise13Way();
        promise14Affected();
        promise14AffectedStays();
        promise15Tight();
        promise16Ring();
        promise17Count();
        zeroRings();
        objectsAreApart();
        System.out.println(wrong == 0 ? "all answers are as due" : wrong + " answers are not as due");
        if (wrong != 0) {
            System.exit(1);
        }
    }

    private static void promise1New() {
        KeptPaths x = new KeptPaths();
        for (int what = 0; what <= 5; what++) {
            due("new: count(" + what + ")", x.count(what), 0);
        }
        for (int k = 0; k < 3; k++) {
            due("new: affected", x.affected(k), 0);
            due("new: tight", x.tight(k), 0);
            due("new: distance", x.distance(k, 0), BAD);
            due("new: source", x.source(k, -1), -1);
        }
        due("new: ring(-1)", x.ring(-1), 0);
        due("new: ring(0)", x.ring(0), BAD);
        due("new: undo", x.undo(), NONE);
        due("new: arc", x.arc(0, 1), BAD);
        KeptPaths y = withNodes(1);
        for (int k = 0; k < 3; k++) {
            due("new: no source, distance", y.distance(k, 0), NONE);
            due("new: no source, hops", y.hops(k, 0), NONE);
            due("new: no source, parent", y.parent(k, 0), NONE);
            due("new: no source, way", y.way(k, 0, -1), NONE);
        }
    }

    private static void promise2Node() {
        KeptPaths x = new KeptPaths();
        for (int v = 0; v < 24; v++) {
            due("node", x.node(), v);
            due("node: count", x.count(0), v + 1);
        }
        due("node: full", x.node(), FULL);
        due("node: full, count", x.count(0), 24);
        x.begin();
        due("node: turn ahead of full", x.node(), TURN);

        KeptPaths y = withNodes(1);
        y.source(0, 0);
        y.begin();
        due("node: turn", y.node(), TURN);
        due("node: turn changes nothing", y.count(0), 1);
        y.end();
        due("node: after the batch", y.node(), 1);
        due("node: without arcs", y.arc(0, 1), NONE);
        due("node: without arcs back", y.arc(1, 0), NONE);
        due("node: not reached", y.distance(0, 1), NONE);
        due("node: is no change", y.count(5), 0);
        due("node: is not kept", y.count(2), 0);
    }

    private static void promise3Source() {
        KeptPaths x = withNodes(4);
        due("source: first", x.source(0, 2), -1);
        due("source: what it was", x.source(0, 3), 2);
        due("source: the same", x.source(0, 3), 3);
        due("source: another k", x.source(2, 3), -1);
        due("source: to none", x.source(0, -1), 3);
        due("source: none has no distance", x.distance(0, 3), NONE);
        due("source: none again", x.source(0, -1), -1);
        due("source: the other stays", x.distance(2, 3), 0);
        for (int v : new int[] {-2, 4, 24, Integer.MIN_VALUE, Integer.MAX_VALUE}) {
            due("source: bad node " + v, x.source(2, v), BAD);
        }
        for (int k : NO_SOURCES) {
            due("source: bad source " + k, x.source(k, 0), BAD);
            due("source: bad source " + k, x.source(k, -1), BAD);
        }
        x.begin();
        due("source: turn", x.source(2, 0), TURN);
        due("source: turn for none", x.source(2, -1), TURN);
        due("source: bad ahead of turn", x.source(2, 4), BAD);
        due("source: bad ahead of turn", x.source(3, 0), BAD);
        x.end();
        due("source: not done changes nothing", x.source(2, 1), 3);

        KeptPaths y = chain(4, 2);
        due("source: told behind the arcs", y.source(1, 1), -1);
        due("source: distance at once", y.distance(1, 3), 4);
        due("source: not back", y.distance(1, 0), NONE);
        due("source: tight at once", y.tight(1), 2);
        due("source: moved", y.source(1, 2), 1);
        due("source: moved, old one not reached", y.distance(1, 1), NONE);
        due("source: is no change", y.count(5), 3);
    }

    private static void promise4Put() {
        KeptPaths x = withNodes(4);
        due("put: comes", x.put(0, 1, 5), NONE);
        due("put: is there", x.arc(0, 1), 5);
        due("put: other way round", x.arc(1, 0), NONE);
        due("put: had", x.put(0, 1, 7), 5);
        due("put: the same length", x.put(0, 1, 7), 7);
        due("put: the same length is a change", x.count(5), 3);
        due("put: the same length is kept", x.count(2), 3);
        due("put: one arc", x.count(1), 1);
        due("put: longest", x.put(2, 3, 1000), NONE);
        due("put: least", x.put(3, 2, -1000), NONE);
        due("put: too long", x.put(0, 2, 1001), BAD);
        due("put: too short", x.put(0, 2, -1001), BAD);
        due("put: far too long", x.put(0, 2, Integer.MAX_VALUE), BAD);
        due("put: far too short", x.put(0, 2, Integer.MIN_VALUE), BAD);
        due("put: NONE is no length", x.put(0, 1, NONE), BAD);
        for (int v : NO_NODES) {
            due("put: no node a " + v, x.put(v, 1, 1), BAD);
            due("put: no node b " + v, x.put(1, v, 1), BAD);
        }
        due("put: one node", x.put(1, 1, 1), BAD);
        due("put: bad changes nothing", x.count(5), 5);
        due("put: bad changes nothing", x.count(1), 3);

        x.begin();
        for (int i = 0; i < 30; i++) {
            due("put: in a batch", x.put(0, 1, i), i == 0 ? 7 : i - 1);
        }
        due("put: full", x.put(0, 2, 1), FULL);
        due("put: full for the same length", x.put(0, 1, 29), FULL);
        due("put: full ahead of refused", x.put(1, 0, -1000), FULL);
        due("put: bad ahead of full", x.put(0, 0, 1), BAD);
        due("put: bad length ahead of full", x.put(0, 1, 1001), BAD);
        due("put: full changes nothing", x.arc(0, 2), NONE);
        due("put: full tells no ring", x.ring(-1), 0);
        due("put: thirty", x.end(), 30);
        due("put: again behind the batch", x.put(0, 2, 1), NONE);
    }

    private static void promise4Refused() {
        KeptPaths x = chain(3, 2);
        due("refused: below 0", x.put(2, 0, -5), REFUSED);
        due("refused: did not come", x.arc(2, 0), NONE);
        due("refused: is no change", x.count(5), 2);
        due("refused: is not kept", x.count(2), 2);
        due("refused: affected stays", x.affected(0), 4);
        due("not refused: just 0", x.put(2, 0, -4), NONE);
        due("refused: the own arc is not in the way", x.put(2, 0, -5), REFUSED);
        due("refused: keeps its length", x.arc(2, 0), -4);
        due("refused: also for length 0 or more", x.put(0, 1, 1), REFUSED);
        due("refused: arc stays", x.arc(0, 1), 2);
        due("not refused: grows", x.put(0, 1, 9), 2);
        due("not refused: smaller again", x.put(2, 0, -11), -4);
        due("refused: now too small", x.put(0, 1, 8), REFUSED);
        due("refused: arc of two", x.put(1, 0, -10), REFUSED);
        due("not refused: without a way", withNodes(2).put(0, 1, -1000), NONE);

        // The net as it is told counts, not the one ahead of the batch.
        KeptPaths y = chain(3, 2);
        y.begin();
        due("refused: in a batch", y.put(2, 0, -5), REFUSED);
        due("refused: no change of the batch", y.count(3), 0);
        y.take(0, 1);
        due("not refused: way gone in the batch", y.put(2, 0, -5), NONE);
        due("refused: against the batch's arc", y.put(0, 1, 2), REFUSED);
        due("refused: ring in the batch", y.ring(-1), 3);
        due("not refused: in the batch", y.put(0, 1, 3), NONE);
        due("refused: end", y.end(), 3);
    }

    private static void promise5Take() {
        KeptPaths x = chain(4, 3);
        due("take: none", x.take(1, 0), NONE);
        due("take: none is no change", x.count(5), 3);
        due("take: none is not kept", x.count(2), 3);
        due("take: none leaves affected", x.affected(0), 8);
        due("take: its length", x.take(1, 2), 3);
        due("take: gone", x.arc(1, 2), NONE);
        due("take: again", x.take(1, 2), NONE);
        due("take: arcs", x.count(1), 2);
        due("take: is a change", x.count(5), 4);
        due("take: is kept", x.count(2), 4);
        due("take: no way now", x.distance(0, 3), NONE);
        for (int v : NO_NODES) {
            due("take: no node a " + v, x.take(v, 1), BAD);
            due("take: no node b " + v, x.take(1, v), BAD);
        }
        due("take: one node", x.take(1, 1), BAD);

        x.begin();
        for (int i = 0; i < 15; i++) {
            x.put(3, 0, 4);
            due("take: in a batch", x.take(3, 0), 4);
        }
        due("take: full", x.take(0, 1), FULL);
        due("take: full ahead of none", x.take(3, 0), FULL);
        due("take: bad ahead of full", x.take(0, 0), BAD);
        due("take: full changes nothing", x.arc(0, 1), 3);
        due("take: thirty", x.end(), 30);
        due("take: again behind the batch", x.take(0, 1), 3);
    }

    private static void promise6Arc() {
        KeptPaths x = withNodes(4);
        x.put(0, 1, 0);
        x.put(2, 3, -7);
        due("arc: 0", x.arc(0, 1), 0);
        due("arc: below 0", x.arc(2, 3), -7);
        due("arc: none", x.arc(3, 2), NONE);
        for (int v : NO_NODES) {
            due("arc: no node a " + v, x.arc(v, 1), BAD);
            due("arc: no node b " + v, x.arc(1, v), BAD);
        }
        due("arc: one node", x.arc(2, 2), BAD);
        x.begin();
        x.put(0, 1, 8);
        x.take(2, 3);
        due("arc: as told in a batch", x.arc(0, 1), 8);
        due("arc: taken in a batch", x.arc(2, 3), NONE);
        x.end();
        x.undo();
        due("arc: taken back", x.arc(0, 1), 0);
        due("arc: back again", x.arc(2, 3), -7);
    }

    private static void promise7Begin() {
        KeptPaths x = withNodes(2);
        due("begin", x.begin(), 1);
        due("begin: turn", x.begin(), TURN);
        due("begin: there is one", x.count(4), 1);
        x.put(0, 1, 1);
        due("begin: turn", x.begin(), TURN);
        due("begin: turn changes nothing", x.count(3), 1);
        due("begin: end", x.end(), 1);
        due("begin: again", x.begin(), 1);
        due("begin: a new one has no changes", x.count(3), 0);
    }

    private static void promise8End() {
        KeptPaths x = withNodes(3);
        due("end: turn", x.end(), TURN);
        x.begin();
        due("end: without changes", x.end(), 0);
        due("end: without changes is not kept", x.count(2), 0);
        due("end: turn again", x.end(), TURN);
        x.begin();
        x.put(0, 1, 1);
        x.put(0, 1, 1);
        x.take(0, 1);
        x.take(0, 1);
        x.put(0, 0, 1);
        due("end: its changes", x.end(), 3);
        due("end: kept as one", x.count(2), 1);
        due("end: changes in all", x.count(5), 3);
        due("end: none is open", x.count(4), 0);
    }

    private static void promise8BatchIsToldLate() {
        KeptPaths x = chain(4, 2);
        x.source(1, 1);
        x.begin();
        x.put(0, 3, 1);
        x.take(0, 1);
        due("batch: distance as ahead", x.distance(0, 3), 6);
        due("batch: hops as ahead", x.hops(0, 3), 3);
        due("batch: parent as ahead", x.parent(0, 3), 2);
        due("batch: way as ahead", x.way(0, 3, 1), 1);
        due("batch: way as ahead", x.way(0, 3, -1), 4);
        due("batch: tight as ahead", x.tight(0), 3);
        due("batch: affected as ahead", x.affected(0), 8);
        due("batch: arcs as told", x.count(1), 3);
        x.end();
        due("batch: distance", x.distance(0, 3), 1);
        due("batch: hops", x.hops(0, 3), 1);
        due("batch: parent", x.parent(0, 3), 0);
        due("batch: way", x.way(0, 3, -1), 2);
        due("batch: tight", x.tight(0), 1);
        due("batch: affected", x.affected(0), 14);
        due("batch: the other source", x.affected(1), 0);
        x.begin();
        x.put(0, 3, 9);
        x.put(0, 3, 1);
        x.end();
        due("batch: as it was in the end", x.affected(0), 0);
        due("batch: is kept all the same", x.count(2), 5);
    }

    private static void promise9Undo() {
        KeptPaths x = chain(3, 2);
        x.put(0, 1, 5);
        due("undo: a length", x.undo(), 2);
        due("undo: length back", x.arc(0, 1), 2);
        due("undo: distance back", x.distance(0, 2), 4);
        due("undo: affected", x.affected(0), 6);
        x.take(0, 1);
        due("undo: a take", x.undo(), 2);
        due("undo: arc back", x.arc(0, 1), 2);
        x.put(0, 1, 2);
        due("undo: the same length", x.undo(), 2);
        due("undo: nothing affected", x.affected(0), 0);
        due("undo: a put", x.undo(), 1);
        due("undo: arc gone", x.arc(1, 2), NONE);
        due("undo: arcs", x.count(1), 1);
        due("undo: affected", x.affected(0), 4);
        x.begin();
        due("undo: turn", x.undo(), TURN);
        x.end();
        due("undo: the last", x.undo(), 0);
        x.begin();
        due("undo: turn ahead of none", x.undo(), TURN);
        x.end();
        due("undo: none", x.undo(), NONE);
        due("undo: is no change", x.count(5), 5);
        due("undo: nodes stay", x.count(0), 3);
        due("undo: sources stay", x.source(0, -1), 0);

        KeptPaths y = chain(3, 2);
        y.source(0, 1);
        y.undo();
        due("undo: by the source as it is now", y.affected(0), 4);
        y.put(1, 2, 8);
        due("undo: kept on after an undo", y.count(2), 2);
        due("undo: takes the new one", y.undo(), 1);
        due("undo: new one gone", y.arc(1, 2), NONE);
        due("undo: old one stays", y.arc(0, 1), 2);
    }

    private static void promise9UndoOfBatches() {
        KeptPaths x = chain(4, 2);
        x.begin();
        x.put(0, 1, 3);
        x.put(0, 1, 4);
        x.take(0, 1);
        x.put(0, 1, 6);
        x.put(3, 0, 1);
        x.take(1, 2);
        x.end();
        due("undo: kept", x.count(2), 4);
        due("undo: a batch as one", x.undo(), 3);
        due("undo: first length back", x.arc(0, 1), 2);
        due("undo: came in the batch", x.arc(3, 0), NONE);
        due("undo: went in the batch", x.arc(1, 2), 2);
        due("undo: arcs", x.count(1), 3);
        due("undo: distance", x.distance(0, 3), 6);
        due("undo: affected", x.affected(0), 14);
        x.begin();
        x.end();
        due("undo: empty batch is not kept", x.undo(), 2);
        due("undo: so the change ahead went", x.arc(2, 3), NONE);
    }

    private static void promise9LatestForty() {
        KeptPaths x = withNodes(2);
        for (int i = 1; i <= 45; i++) {
            x.put(0, 1, i);
            due("kept", x.count(2), Math.min(i, 40));
        }
        // A batch without changes costs none of the forty.
        x.begin();
        x.end();
        due("kept: still forty", x.count(2), 40);
        x.begin();
        for (int i = 0; i < 30; i++) {
            x.put(0, 1, 100 + i);
        }
        due("kept: forty in the batch", x.count(2), 40);
        x.end();
        due("kept: forty with the batch", x.count(2), 40);
        due("undo: the batch", x.undo(), 39);
        due("undo: ahead of the batch", x.arc(0, 1), 45);
        for (int left = 38; left >= 0; left--) {
            due("undo: left", x.undo(), left);
            due("undo: length", x.arc(0, 1), 6 + left);
        }
        due("undo: none left", x.undo(), NONE);
        due("undo: none changes nothing", x.arc(0, 1), 6);
        x.put(0, 1, 50);
        due("undo: kept anew", x.undo(), 0);
        due("undo: taken back anew", x.arc(0, 1), 6);
    }

    private static void promise10Distance() {
        KeptPaths x = chain(4, 2);
        x.take(2, 3);
        x.put(0, 2, -1);
        due("distance: source", x.distance(0, 0), 0);
        due("distance: an arc", x.distance(0, 1), 2);
        due("distance: below 0", x.distance(0, 2), -1);
        due("distance: not reached", x.distance(0, 3), NONE);
        due("distance: no such source told", x.distance(1, 0), NONE);
        badBySourceAndNode(x, 0);

        KeptPaths y = chain(24, 1000);
        due("distance: longest", y.distance(0, 23), 23000);
        KeptPaths z = chain(24, -1000);
        due("distance: least", z.distance(0, 23), -23000);
        due("distance: more arcs are shorter", z.put(0, 23, -1000), NONE);
        due("distance: stays", z.distance(0, 23), -23000);

        // Arcs that go down in number, so that nodes are settled in many rounds.
        KeptPaths w = withNodes(24);
        w.source(2, 23);
        for (int v = 23; v > 0; v--) {
            w.put(v, v - 1, v % 2 == 0 ? 7 : -3);
            if (v < 23) {
                w.put(23, v - 1, 1000);
            }
        }
        due("distance: many rounds", w.distance(2, 0), 11 * 7 - 12 * 3);
    }

    private static void badBySourceAndNode(KeptPaths x, int what) {
        for (int k : NO_SOURCES) {
            due("bad source " + k, byNode(x, what, k, 0), BAD);
        }
        for (int k = 0; k < 3; k++) {
            for (int v : NO_NODES) {
                due("bad node " + v, byNode(x, what, k, v), BAD);
            }
        }
    }

    private static int byNode(KeptPaths x, int what, int k, int v) {
        switch (what) {
            case 0:
                return x.distance(k, v);
            case 1:
                return x.hops(k, v);
            case 2:
                return x.parent(k, v);
            default:
                return x.way(k, v, what - 4);
        }
    }

    private static void promise11Hops() {
        KeptPaths x = chain(4, 1);
        due("hops: source", x.hops(0, 0), 0);
        due("hops: chain", x.hops(0, 3), 3);
        x.put(0, 3, 4);
        due("hops: the least way, not the fewest arcs", x.hops(0, 3), 3);
        x.put(0, 3, 3);
        due("hops: the fewest arcs of the least ways", x.hops(0, 3), 1);
        due("hops: affected without the distance", x.affected(0), 8);
        due("hops: the way, too", x.way(0, 3, -1), 2);
        due("hops: none told", x.hops(1, 0), NONE);
        x.source(1, 3);
        due("hops: not reached", x.hops(1, 0), NONE);
        badBySourceAndNode(x, 1);

        // A way as long, with one arc less, comes behind one that is settled already.
        KeptPaths y = chain(5, 1);
        y.put(1, 4, 3);
        due("hops: one arc less than two", y.hops(0, 4), 2);
        y.put(0, 3, 3);
        due("hops: as many", y.hops(0, 4), 2);
        due("hops: the least parent of as many", y.parent(0, 4), 1);
        y.put(1, 3, 2);
        due("hops: not more", y.hops(0, 3), 1);
        y.take(0, 3);
        due("hops: the next fewest", y.hops(0, 3), 2);
    }

    private static void promise12Parent() {
        KeptPaths x = withNodes(4);
        x.source(0, 3);
        x.put(3, 2, 1);
        x.put(3, 1, 1);
        x.put(2, 0, 1);
        due("parent: the only", x.parent(0, 0), 2);
        x.put(1, 0, 1);
        due("parent: the least", x.parent(0, 0), 1);
        due("parent: affected by the parent alone", x.affected(0), 1);
        due("parent: of the source", x.parent(0, 3), NONE);
        x.put(0, 3, -2);
        due("parent: of the source on a ring of 0", x.parent(0, 3), NONE);
        due("parent: none told", x.parent(1, 0), NONE);
        badBySourceAndNode(x, 2);

        // Node 0 has a least way to 3, too, but one with more arcs than the fewest.
        KeptPaths y = withNodes(4);
        y.source(1, 2);
        y.put(2, 1, 0);
        y.put(1, 0, 0);
        y.put(0, 3, 0);
        y.put(1, 3, 0);
        due("parent: by the hops", y.parent(1, 3), 1);
        y.take(2, 1);
        due("parent: not reached", y.parent(1, 3), NONE);
    }

    private static void promise13Way() {
        KeptPaths x = withNodes(5);
        x.source(2, 3);
        x.put(3, 1, 2);
        x.put(1, 4, -1);
        x.put(4, 0, 2);
        int[] nodes = {3, 1, 4, 0};
        due("way: how many", x.way(2, 0, -1), 4);
        for (int i = 0; i < nodes.length; i++) {
            due("way: node " + i, x.way(2, 0, i), nodes[i]);
        }
        due("way: behind it", x.way(2, 0, 4), BAD);
        due("way: far behind it", x.way(2, 0, Integer.MAX_VALUE), BAD);
        due("way: ahead of it", x.way(2, 0, -2), BAD);
        due("way: far ahead of it", x.way(2, 0, Integer.MIN_VALUE), BAD);
        due("way: to the source", x.way(2, 3, -1), 1);
        due("way: to the source", x.way(2, 3, 0), 3);
        due("way: to the source", x.way(2, 3, 1), BAD);
        due("way: none", x.way(2, 2, -1), NONE);
        due("way: none ahead of bad", x.way(2, 2, 99), NONE);
        due("way: none ahead of bad", x.way(2, 2, -2), NONE);
        due("way: none told, ahead of bad", x.way(0, 2, -2), NONE);
        KeptPaths y = chain(4, 1);
        badBySourceAndNode(y, 3);
        badBySourceAndNode(y, 4);
    }

    private static void promise14Affected() {
        KeptPaths x = withNodes(5);
        x.source(0, 0);
        x.source(1, 1);
        x.put(0, 1, 2);
        due("affected: there now", x.affected(0), 2);
        due("affected: by the other", x.affected(1), 0);
        x.put(1, 2, 2);
        due("affected: both", x.affected(0), 4);
        due("affected: both", x.affected(1), 4);
        x.put(0, 1, 3);
        due("affected: lengths", x.affected(0), 6);
        due("affected: not by source 1", x.affected(1), 0);
        x.put(0, 1, 3);
        due("affected: the same length", x.affected(0), 0);
        x.take(0, 1);
        due("affected: there no more", x.affected(0), 6);
        due("affected: no source", x.affected(2), 0);
        for (int k : NO_SOURCES) {
            due("affected: bad " + k, x.affected(k), BAD);
        }
        KeptPaths y = chain(24, 1);
        y.take(0, 1);
        due("affected: all but the source", y.affected(0), 0xfffffe);
        y.undo();
        due("affected: by an undo", y.affected(0), 0xfffffe);
    }

    private static void promise14AffectedStays() {
        KeptPaths x = chain(4, 2);
        x.source(1, 0);
        x.put(1, 2, 1);
        due("affected: both", x.affected(0), 12);
        due("affected: both", x.affected(1), 12);
        x.source(1, 0);
        due("affected: none when a source is told, even the same", x.affected(1), 0);
        due("affected: only of that one", x.affected(0), 12);
        x.node();
        x.put(0, 0, 1);
        x.take(3, 0);
        x.put(3, 0, -1000);
        x.source(0, 99);
        x.end();
        x.distance(0, 1);
        due("affected: stays while nothing counts", x.affected(0), 12);
        x.begin();
        x.source(0, 1);
        x.put(0, 1, 9);
        due("affected: stays in a batch", x.affected(0), 12);
        x.undo();
        x.take(0, 1);
        x.put(0, 1, 2);
        x.end();
        due("affected: the batch as one", x.affected(0), 0);
        x.put(1, 2, 2);
        due("affected: again", x.affected(0), 12);
        x.begin();
        due("affected: begin does not count", x.affected(0), 12);
        x.end();
        due("affected: a batch without changes counts", x.affected(0), 0);
        x.put(1, 2, 1);
        x.source(0, -1);
        due("affected: none for no source", x.affected(0), 0);
        due("affected: the other stays", x.affected(1), 12);
        x.source(0, 0);
        x.put(1, 2, 1);
        due("affected: what the told source has is not new", x.affected(0), 0);
    }

    private static void promise15Tight() {
        KeptPaths x = withNodes(4);
        x.source(0, 0);
        due("tight: none", x.tight(0), 0);
        x.put(0, 1, 1);
        x.put(1, 2, 1);
        x.put(0, 2, 3);
        due("tight: two of three", x.tight(0), 2);
        x.put(0, 2, 2);
        due("tight: with more hops, too", x.tight(0), 3);
        x.put(3, 1, -1);
        due("tight: not from where there is no way", x.tight(0), 3);
        x.put(2, 0, -2);
        due("tight: back to the source", x.tight(0), 4);
        due("tight: no source", x.tight(1), 0);
        x.source(1, 3);
        due("tight: by another source", x.tight(1), 5);
        for (int k : NO_SOURCES) {
            due("tight: bad " + k, x.tight(k), BAD);
        }
        x.begin();
        x.take(0, 1);
        x.take(1, 2);
        due("tight: as ahead of the batch", x.tight(0), 4);
        x.end();
        due("tight: when it ends", x.tight(0), 2);
        x.source(0, -1);
        due("tight: source gone", x.tight(0), 0);
    }

    private static void promise16Ring() {
        KeptPaths x = chain(4, 2);
        due("ring: none before", x.ring(-1), 0);
        due("ring: none before", x.ring(0), BAD);
        x.put(3, 1, -5);
        int[] nodes = {1, 2, 3};
        due("ring: how many", x.ring(-1), 3);
        for (int i = 0; i < nodes.length; i++) {
            due("ring: node " + i, x.ring(i), nodes[i]);
        }
        due("ring: behind it", x.ring(3), BAD);
        due("ring: far behind it", x.ring(Integer.MAX_VALUE), BAD);
        due("ring: ahead of it", x.ring(-2), BAD);
        due("ring: far ahead of it", x.ring(Integer.MIN_VALUE), BAD);
        x.put(3, 1, -4);
        x.put(3, 3, 1);
        x.undo();
        due("ring: stays", x.ring(-1), 3);
        due("ring: stays", x.ring(2), 3);
        x.put(1, 0, -3);
        due("ring: the latest", x.ring(-1), 2);
        due("ring: the latest", x.ring(0), 0);
        due("ring: the latest", x.ring(1), 1);
        due("ring: no more of the one before", x.ring(2), BAD);

        KeptPaths w = chain(24, 1);
        due("ring: refused", w.put(23, 0, -24), REFUSED);
        due("ring: of all nodes", w.ring(-1), 24);
        for (int i = 0; i < 24; i++) {
            due("ring: of all nodes, " + i, w.ring(i), i);
        }
        due("ring: of all nodes, no more", w.ring(24), BAD);

        // Two least ways back with as many arcs: the least parents; one with fewer arcs goes ahead.
        KeptPaths y = withNodes(5);
        y.put(0, 3, 1);
        y.put(0, 2, 1);
        y.put(3, 4, 1);
        y.put(2, 4, 1);
        due("ring: refused", y.put(4, 0, -3), REFUSED);
        due("ring: least parent", y.ring(1), 2);
        y.put(0, 4, 2);
        due("ring: refused", y.put(4, 0, -3), REFUSED);
        due("ring: fewest arcs", y.ring(-1), 2);
    }

    private static void promise17Count() {
        KeptPaths x = withNodes(3);
        x.put(0, 1, 1);
        x.put(1, 2, 1);
        due("count: nodes", x.count(0), 3);
        due("count: arcs", x.count(1), 2);
        due("count: kept", x.count(2), 2);
        due("count: no batch", x.count(3), 0);
        due("count: no batch", x.count(4), 0);
        due("count: in all", x.count(5), 2);
        x.begin();
        due("count: batch without changes", x.count(3), 0);
        due("count: batch", x.count(4), 1);
        x.take(0, 1);
        x.put(0, 2, 4);
        x.put(0, 2, 4);
        x.take(2, 1);
        due("count: arcs in the batch", x.count(1), 2);
        due("count: kept in the batch", x.count(2), 2);
        due("count: changes in the batch", x.count(3), 3);
        due("count: in all in the batch", x.count(5), 5);
        x.end();
        due("count: kept behind the batch", x.count(2), 3);
        due("count: changes behind the batch", x.count(3), 0);
        due("count: batch over", x.count(4), 0);
        due("count: in all behind the batch", x.count(5), 5);
        x.undo();
        due("count: kept behind the undo", x.count(2), 2);
        due("count: changes behind the undo", x.count(3), 0);
        due("count: in all behind the undo", x.count(5), 5);
        for (int what : new int[] {-1, 6, Integer.MIN_VALUE, Integer.MAX_VALUE}) {
            due("count: bad " + what, x.count(what), BAD);
        }
    }

    private static void zeroRings() {
        KeptPaths x = withNodes(4);
        x.source(0, 0);
        x.put(1, 2, -3);
        x.put(2, 3, 1);
        due("zero ring closes", x.put(3, 1, 2), NONE);
        x.put(0, 2, 5);
        due("zero ring: distance", x.distance(0, 1), 8);
        due("zero ring: hops", x.hops(0, 1), 3);
        due("zero ring: tight", x.tight(0), 4);
        due("zero ring: way", x.way(0, 1, 2), 3);
        due("zero ring: parent is off the ring", x.parent(0, 2), 0);
    }

    private static void objectsAreApart() {
        KeptPaths x = chain(3, 1);
        KeptPaths y = withNodes(3);
        due("apart: arcs", y.count(1), 0);
        due("apart: arc", y.arc(0, 1), NONE);
        due("apart: source", y.source(0, 1), -1);
        due("apart: the first stays", x.distance(0, 2), 2);
    }
}
