/**
 * Each sentence of the document that names a boundary case, on both sides of the boundary. Behind
 * every call of these runs that was not done, Runs looks at what the other calls tell.
 */
public final class BoundaryTests {
    private static final int LEAST = Integer.MIN_VALUE, MOST = Integer.MAX_VALUE;

    public static void main(String[] args) {
        whatItIs();
        termsOfTheNet();
        termsOfWays();
        termsOfParentsAndTight();
        termsOfChanges();
        termsOfBatches();
        termsOfAffected();
        termsOfAffectedWhenNothingCounts();
        termsOfRefused();
        termsOfRefusedInBatches();
        termsOfTheRing();
        termsOfKept();
        termsOfUndo();
        whichAnswerGoesAhead();
        promises1To3();
        promises4To6();
        promises7To9();
        promises10To12();
        promise13();
        promises14To17();
        Runs.finish();
    }

    private static void run(String sentence, String... rows) {
        Runs.run(sentence, rows);
    }

    private static void wholeRun(String sentence, String... rows) {
        Runs.due(sentence + ": the test itself", Runs.run(sentence, rows), Runs.MOST_CALLS);
    }

    private static String each(int from, int to, String row) {
        return Runs.each(from, to, row);
    }

    private static String nodes(int many) {
        return Runs.nodes(many);
    }

    private static String chain(int nodes, int length) {
        return Runs.chain(nodes, length);
    }

    private static String times(int many, String rows) {
        return (rows + "; ").repeat(many);
    }

    private static void whatItIs() {
        run("NODES are 0, 1, .. , 24 at most: with 24",
                nodes(24), "count(0) = 24; node() = FULL; count(0) = 24; node() = FULL",
                "arc(22, 23) = NONE; arc(23, 22) = NONE; arc(23, 24) = BAD; arc(24, 23) = BAD",
                "put(0, 23, 1) = NONE; put(0, 24, 1) = BAD; take(0, 24) = BAD",
                "source(0, 23) = -1; source(0, 24) = BAD; distance(0, 23) = 0; distance(0, 24) = BAD");
        run("NODES are 0, 1, .. , 24 at most: with 23",
                nodes(23), "source(0, 22) = -1; source(0, 23) = BAD; arc(22, 23) = BAD; put(22, 23, 1) = BAD",
                "node() = 23; source(0, 23) = 22; arc(22, 23) = NONE; put(22, 23, 1) = NONE; node() = FULL");
        wholeRun("at most 512 calls: the last of them, with changes that all count at once",
                nodes(24), "source(0, 0) = -1; source(1, 12) = -1; source(2, 23) = -1",
                each(0, 22, "put(#, #+1, 1) = NONE"), each(0, 22, "put(#+1, #, -1) = NONE"),
                each(1, 22, "put(0, 23, #) = REFUSED"), each(23, 435, "put(0, 23, #)"),
                "tight(0) = 46; distance(0, 23) = 23; affected(0) = 0; count(5) = 459");
        wholeRun("at most 512 calls: the last of them, with full BATCHES and one UNDO",
                nodes(2), "source(0, 0) = -1",
                times(15, "begin() = 1; " + each(1, 30, "put(0, 1, #)") + "put(0, 1, 31) = FULL; end() = 30"),
                "begin() = 1", each(1, 8, "put(0, 1, 1#)"), "end() = 8; distance(0, 1) = 18; undo() = 15",
                "count(5) = 458; count(2) = 15");
    }

    private static void termsOfTheNet() {
        run("From a NODE to another one there is one ARC, or none",
                nodes(2), "arc(0, 1) = NONE; put(0, 1, 5) = NONE; put(0, 1, 6) = 5; count(1) = 1; arc(0, 1) = 6",
                "take(0, 1) = 6; arc(0, 1) = NONE; take(0, 1) = NONE; count(1) = 0");
        run("From a NODE to another one: each way round has its own",
                nodes(2), "put(0, 1, 5) = NONE; arc(1, 0) = NONE; put(1, 0, -5) = NONE; arc(0, 1) = 5",
                "count(1) = 2; take(0, 1) = 5; arc(1, 0) = -5; take(0, 1) = NONE; count(1) = 1");
        run("to another one: none from a NODE to itself",
                nodes(2), "put(0, 0, 0) = BAD; put(1, 1, 1) = BAD; arc(0, 0) = BAD; take(1, 1) = BAD; count(1) = 0");
        run("a LENGTH: 1,000 and no more",
                nodes(2), "put(0, 1, 999) = NONE; put(0, 1, 1000) = 999; put(0, 1, 1001) = BAD; arc(0, 1) = 1000",
                "put(0, 1, " + MOST + ") = BAD; put(1, 0, 1001) = BAD; arc(1, 0) = NONE");
        run("a LENGTH: - 1,000 and no less",
                nodes(2), "put(0, 1, -999) = NONE; put(0, 1, -1000) = -999; put(0, 1, -1001) = BAD; arc(0, 1) = -1000",
                "put(0, 1, " + LEAST + ") = BAD; put(1, 0, -1001) = BAD; arc(1, 0) = NONE");
        run("a LENGTH: what the answers are is none",
                nodes(2), "put(0, 1, -1000000) = BAD; put(0, 1, -2000000) = BAD; arc(0, 1) = NONE; count(1) = 0",
                "put(0, 1, 7) = NONE; put(0, 1, -1000000) = BAD; arc(0, 1) = 7");
        run("no RING has a LENGTH below 0, ever: one of 0 may be, of two ARCS",
                nodes(2), "put(0, 1, 1000) = NONE; put(1, 0, -1000) = NONE; put(0, 1, 999) = REFUSED",
                "arc(0, 1) = 1000; put(0, 1, 1000) = 1000; put(1, 0, -999) = -1000; put(0, 1, 999) = 1000");
        run("no RING has a LENGTH below 0, ever: one of 0 may be, of 24 ARCS",
                chain(24, -10), "put(23, 0, 229) = REFUSED; arc(23, 0) = NONE; put(23, 0, 230) = NONE",
                "put(11, 12, -11) = REFUSED; put(11, 12, -9) = -10; put(23, 0, 229) = 230; put(23, 0, 228) = REFUSED");
    }

    private static void termsOfWays() {
        run("SOURCES 0 .. 2 are NODES, or none (at first)",
                nodes(2), each(0, 2, "distance(#, 0) = NONE; tight(#) = 0; affected(#) = 0; source(#, 1) = -1"),
                each(0, 2, "distance(#, 1) = 0"), each(0, 2, "source(#, -1) = 1"), each(0, 2, "distance(#, 1) = NONE"),
                "source(-1, 1) = BAD; source(3, 1) = BAD; source(-1, -1) = BAD; source(3, -1) = BAD");
        run("SOURCES may be one NODE",
                nodes(2), each(0, 2, "source(#, 0) = -1"), "put(0, 1, 4) = NONE",
                each(0, 2, "distance(#, 1) = 4; affected(#) = 2; tight(#) = 1"));
        run("A WAY goes along none, too: to the SOURCE itself",
                nodes(1), "source(0, 0) = -1; distance(0, 0) = 0; hops(0, 0) = 0; parent(0, 0) = NONE",
                "way(0, 0, -1) = 1; way(0, 0, 0) = 0; way(0, 0, 1) = BAD");
        run("A WAY goes along none, too: less than a RING of 0",
                nodes(2), "source(0, 0) = -1; put(0, 1, -7) = NONE; put(1, 0, 7) = NONE",
                "distance(0, 0) = 0; hops(0, 0) = 0; parent(0, 0) = NONE; way(0, 0, -1) = 1");
        run("DISTANCE: the least LENGTH of a WAY; one more, one less",
                chain(3, 5), "source(0, 0) = -1; put(0, 2, 11) = NONE; distance(0, 2) = 10; hops(0, 2) = 2",
                "put(0, 2, 9) = 11; distance(0, 2) = 9; hops(0, 2) = 1; parent(0, 2) = 0");
        run("DISTANCE: the longest that there is",
                chain(24, 1000), "source(0, 0) = -1; distance(0, 23) = 23000; hops(0, 23) = 23",
                "way(0, 23, -1) = 24; way(0, 23, 23) = 23; way(0, 23, 24) = BAD");
        run("DISTANCE: the least that there is",
                chain(24, -1000), "source(0, 0) = -1; distance(0, 23) = -23000; hops(0, 23) = 23",
                "put(23, 0, 1000) = REFUSED; ring(-1) = 24; put(1, 0, 999) = REFUSED; put(1, 0, 1000) = NONE");
        run("HOPS: the fewest ARCS of such a WAY, not of a longer one",
                chain(4, 1), "source(1, 0) = -1; hops(1, 3) = 3; put(0, 3, 4) = NONE; hops(1, 3) = 3",
                "put(0, 3, 3) = 4; hops(1, 3) = 1; way(1, 3, -1) = 2; put(0, 3, 4) = 3; hops(1, 3) = 3");
        run("HOPS: the fewest ARCS, where the least WAY with more ARCS is found first",
                nodes(5), "source(0, 0) = -1; put(0, 1, 0); put(1, 2, 0); put(2, 3, 0); put(3, 4, 0)",
                "hops(0, 4) = 4; put(0, 3, 0) = NONE; hops(0, 3) = 1; hops(0, 4) = 2; way(0, 4, 1) = 3",
                "put(0, 4, 1) = NONE; hops(0, 4) = 2; put(0, 4, 0) = 1; hops(0, 4) = 1");
        run("HOPS: the fewest ARCS, where 3 would do as well as 2, and a WAY with 1 is longer",
                nodes(5), "source(0, 0) = -1; put(0, 1, 1); put(0, 2, 5); put(1, 2, 1); put(2, 3, 1); put(0, 4, 2); put(4, 3, 2)",
                "hops(0, 3) = 3; parent(0, 3) = 2; put(4, 3, 1) = 2; hops(0, 3) = 2; parent(0, 3) = 4; distance(0, 3) = 3",
                "put(0, 3, 4) = NONE; hops(0, 3) = 2; put(4, 3, 0) = 1; distance(0, 3) = 2; parent(0, 3) = 4");
        run("A NODE to which there is no WAY has none of these",
                chain(3, 1), "source(0, 1) = -1; distance(0, 0) = NONE; hops(0, 0) = NONE; parent(0, 0) = NONE",
                "way(0, 0, -1) = NONE; way(0, 0, 0) = NONE; distance(0, 2) = 1; take(1, 2) = 1",
                "distance(0, 2) = NONE; hops(0, 2) = NONE; parent(0, 2) = NONE; way(0, 2, -1) = NONE");
    }

    private static void termsOfParentsAndTight() {
        run("PARENT (not of s)",
                nodes(3), "source(0, 1) = -1; put(1, 0, 2) = NONE; put(0, 1, -2) = NONE; put(2, 1, 0) = NONE",
                "parent(0, 1) = NONE; parent(0, 0) = 1; parent(0, 2) = NONE");
        run("PARENT: the least NODE, of those that are as good",
                nodes(5), "source(0, 4) = -1; put(4, 2, 1); put(4, 1, 1); put(4, 3, 1)",
                "put(3, 0, 1) = NONE; parent(0, 0) = 3; put(2, 0, 1) = NONE; parent(0, 0) = 2",
                "put(1, 0, 2) = NONE; parent(0, 0) = 2; put(1, 0, 1) = 2; parent(0, 0) = 1; way(0, 0, 1) = 1",
                "take(1, 0) = 1; parent(0, 0) = 2; take(2, 0) = 1; parent(0, 0) = 3; take(3, 0) = 1; parent(0, 0) = NONE");
        run("PARENT: u's HOPS and 1 are v's HOPS, so a lesser NODE with more HOPS is none",
                nodes(4), "source(0, 1) = -1; put(1, 2, 0); put(2, 0, 0); put(0, 3, 0) = NONE; parent(0, 3) = 0",
                "put(2, 3, 0) = NONE; hops(0, 3) = 2; parent(0, 3) = 2; put(1, 0, 0) = NONE; parent(0, 3) = 0");
        run("PARENT: u's DISTANCE and the LENGTH are v's DISTANCE, so a lesser NODE on a longer WAY is none",
                nodes(4), "source(0, 3) = -1; put(3, 0, 1); put(3, 1, 1); put(0, 2, 2); put(1, 2, 1) = NONE",
                "parent(0, 2) = 1; put(0, 2, 1) = 2; parent(0, 2) = 0; put(0, 2, 0) = 1; distance(0, 2) = 1");
        run("THE WAY to v: that by PARENTS",
                nodes(6), "source(2, 5) = -1; put(5, 4, 1); put(5, 3, 1); put(4, 1, 1); put(3, 1, 1); put(1, 0, 1)",
                "way(2, 0, -1) = 4; way(2, 0, 0) = 5; way(2, 0, 1) = 3; way(2, 0, 2) = 1; way(2, 0, 3) = 0",
                "way(2, 0, 4) = BAD; take(5, 3) = 1; way(2, 0, 1) = 4");
        run("An ARC is TIGHT: one more or one less, and it is not, or others are not",
                chain(3, 2), "source(0, 0) = -1; tight(0) = 2; put(0, 2, 5) = NONE; tight(0) = 2",
                "put(0, 2, 4) = 5; tight(0) = 3; put(0, 2, 3) = 4; tight(0) = 2; take(0, 2) = 3; tight(0) = 2");
        run("An ARC is TIGHT: whatever the HOPS, and back to the SOURCE, too",
                chain(3, 0), "source(0, 0) = -1; put(0, 2, 0) = NONE; put(2, 0, 0) = NONE; tight(0) = 4",
                "put(1, 0, 1) = NONE; tight(0) = 4; put(1, 0, 0) = 1; tight(0) = 5");
        run("An ARC is TIGHT: not where there is no DISTANCE",
                nodes(4), "source(0, 0) = -1; put(2, 3, 0) = NONE; put(3, 2, 0) = NONE; tight(0) = 0",
                "put(2, 1, -1000) = NONE; tight(0) = 0; put(0, 1, 0) = NONE; tight(0) = 1; source(0, -1) = 0; tight(0) = 0");
    }

    private static void termsOfChanges() {
        run("A CHANGE: an ARC comes, or gets a LENGTH (also the one that it has), or goes",
                nodes(2), "put(0, 1, 3) = NONE; count(5) = 1; count(2) = 1; put(0, 1, 4) = 3; count(5) = 2; count(2) = 2",
                "put(0, 1, 4) = 4; count(5) = 3; count(2) = 3; take(0, 1) = 4; count(5) = 4; count(2) = 4",
                "take(0, 1) = NONE; count(5) = 4; count(2) = 4");
        run("no CHANGE: a NODE, a SOURCE, a BATCH, what is not done, an UNDO",
                nodes(3), "source(0, 0) = -1; begin() = 1; end() = 0; put(0, 0, 1) = BAD; put(0, 1, 1001) = BAD",
                "count(5) = 0; count(2) = 0; put(0, 1, 1) = NONE; put(1, 0, -2) = REFUSED; count(5) = 1; count(2) = 1",
                "undo() = 0; count(5) = 1; undo() = NONE; count(5) = 1");
        run("It is told to the net at once, in a BATCH, too",
                nodes(2), "begin() = 1; put(0, 1, 3) = NONE; arc(0, 1) = 3; count(1) = 1; put(0, 1, -3) = 3",
                "arc(0, 1) = -3; take(0, 1) = -3; arc(0, 1) = NONE; count(1) = 0; take(0, 1) = NONE; end() = 3");
        run("Outside of a BATCH it counts at once",
                nodes(2), "source(0, 0) = -1; put(0, 1, 3) = NONE; distance(0, 1) = 3; tight(0) = 1; affected(0) = 2",
                "take(0, 1) = 3; distance(0, 1) = NONE; tight(0) = 0; affected(0) = 2");
    }

    private static void termsOfBatches() {
        run("in a BATCH all of its CHANGES count as one, when it ends: till then as ahead of the BATCH",
                chain(4, 2), "source(0, 0) = -1; source(1, 1) = -1; put(2, 3, 2) = 2; begin() = 1; take(1, 2) = 2",
                "distance(0, 3) = 6; hops(0, 3) = 3; parent(0, 3) = 2; way(0, 3, 2) = 2; tight(0) = 3; affected(0) = 0",
                "put(0, 3, 1) = NONE; distance(0, 3) = 6; hops(0, 3) = 3; parent(0, 3) = 2; tight(0) = 3; tight(1) = 2",
                "way(0, 3, -1) = 4; affected(0) = 0; affected(1) = 0; end() = 2",
                "distance(0, 3) = 1; hops(0, 3) = 1; parent(0, 3) = 0; way(0, 3, -1) = 2; tight(0) = 2; tight(1) = 0",
                "affected(0) = 12; affected(1) = 12; distance(0, 2) = NONE");
        run("of the net as it was then: with the last of 30 CHANGES, too",
                nodes(2), "source(0, 0) = -1; put(0, 1, 500) = NONE; begin() = 1",
                each(1, 30, "put(0, 1, #); distance(0, 1) = 500; tight(0) = 1; affected(0) = 2"),
                "put(0, 1, 31) = FULL; distance(0, 1) = 500; end() = 30; distance(0, 1) = 30; affected(0) = 2");
        run("count as one: what comes and goes in one BATCH does nothing",
                nodes(2), "source(0, 0) = -1; begin() = 1; put(0, 1, 4) = NONE; take(0, 1) = 4; end() = 2",
                "affected(0) = 0; count(2) = 1; count(5) = 2; distance(0, 1) = NONE");
        run("count as one: a WAY that is another one for a while in the BATCH does nothing",
                chain(3, 1), "source(0, 0) = -1; begin() = 1; take(0, 1) = 1; put(0, 1, 9) = NONE; put(0, 1, 1) = 9",
                "end() = 3; affected(0) = 0; distance(0, 2) = 2; arc(0, 1) = 1");
    }

    private static void termsOfAffected() {
        run("AFFECTED: the DISTANCE alone is not what it was",
                nodes(2), "source(0, 0) = -1; put(0, 1, 4) = NONE; put(0, 1, 5) = 4; affected(0) = 2",
                "put(0, 1, 5) = 5; affected(0) = 0");
        run("AFFECTED: the HOPS are not what they were, at one DISTANCE",
                chain(3, 2), "source(0, 0) = -1; put(0, 2, 5) = NONE; affected(0) = 0; put(0, 2, 4) = 5; affected(0) = 4",
                "distance(0, 2) = 4; hops(0, 2) = 1");
        run("AFFECTED: the HOPS alone are not what they were, behind the NODE that the ARC goes to",
                nodes(5), "source(0, 0) = -1; put(0, 1, 2); put(1, 2, 2); put(2, 3, 1); put(3, 4, 1)",
                "put(0, 2, 4) = NONE; affected(0) = 28; parent(0, 4) = 3; hops(0, 4) = 3");
        run("AFFECTED: the PARENT alone is not what it was",
                nodes(4), "source(0, 0) = -1; put(0, 1, 1); put(0, 2, 1); put(2, 3, 1); put(1, 3, 2) = NONE",
                "affected(0) = 0; put(1, 3, 1) = 2; affected(0) = 8; parent(0, 3) = 1; take(1, 3) = 1; affected(0) = 8");
        run("AFFECTED: there or not, too",
                chain(3, 1), "source(0, 0) = -1; take(0, 1) = 1; affected(0) = 6; put(0, 1, 1) = NONE; affected(0) = 6",
                "undo() = 3; affected(0) = 6");
        run("AFFECTED: NODES 0 and 23 are bits, too",
                chain(24, 1), "source(0, 23) = -1; source(1, 0) = -1; put(23, 0, 1) = NONE; affected(0) = 8388607",
                "affected(1) = 0; take(22, 23) = 1; affected(0) = 0; affected(1) = 8388608");
        run("AFFECTED: not the SOURCE, on a RING of 0 either",
                nodes(2), "source(0, 0) = -1; put(0, 1, 3) = NONE; put(1, 0, -3) = NONE; affected(0) = 0",
                "take(1, 0) = -3; affected(0) = 0");
        run("AFFECTED: when an UNDO counted last",
                chain(3, 1), "source(0, 0) = -1; put(0, 2, 1) = NONE; affected(0) = 4; undo() = 2; affected(0) = 4",
                "undo() = 1; affected(0) = 4; undo() = 0; affected(0) = 2; undo() = NONE; affected(0) = 2");
        run("AFFECTED: what counted last, not what counted before it",
                chain(3, 1), "source(0, 0) = -1; put(0, 1, 2) = 1; affected(0) = 6; put(2, 0, 9) = NONE; affected(0) = 0");
    }

    private static void termsOfAffectedWhenNothingCounts() {
        run("AFFECTED: none at first",
                each(0, 2, "affected(#) = 0"), nodes(2), each(0, 2, "affected(#) = 0; source(#, 0) = -1; affected(#) = 0"));
        run("AFFECTED: none when a SOURCE is told, only of that one",
                nodes(2), each(0, 2, "source(#, 0) = -1"), "put(0, 1, 1) = NONE; source(1, 1) = 0",
                "affected(0) = 2; affected(1) = 0; affected(2) = 2; source(2, -1) = 0; affected(0) = 2; affected(2) = 0");
        run("AFFECTED: none when a SOURCE is told, also the NODE that it is",
                nodes(2), "source(0, 0) = -1; put(0, 1, 1) = NONE; affected(0) = 2; source(0, 0) = 0; affected(0) = 0");
        run("AFFECTED: as it was when a SOURCE is not told",
                nodes(2), "source(0, 0) = -1; put(0, 1, 1) = NONE; source(0, 2) = BAD; affected(0) = 2",
                "source(0, -2) = BAD; affected(0) = 2; begin() = 1; source(0, 0) = TURN; affected(0) = 2");
        run("AFFECTED: what a SOURCE that is told finds is nothing new",
                chain(3, 1), "source(0, 0) = -1; affected(0) = 0; put(0, 1, 1) = 1; affected(0) = 0",
                "source(0, 1) = 0; put(0, 1, 5) = 1; affected(0) = 0; put(1, 2, 5) = 1; affected(0) = 4");
        run("a BATCH without CHANGES counts, too",
                nodes(2), "source(0, 0) = -1; put(0, 1, 1) = NONE; affected(0) = 2; begin() = 1; affected(0) = 2",
                "end() = 0; affected(0) = 0; count(2) = 1; undo() = 0; affected(0) = 2");
        run("a BATCH without CHANGES counts, too: with calls that were not done in it",
                nodes(2), "source(0, 0) = -1; put(0, 1, 1) = NONE; begin() = 1; put(1, 0, -2) = REFUSED",
                "take(1, 0) = NONE; put(0, 1, 1001) = BAD; affected(0) = 2; end() = 0; affected(0) = 0; count(2) = 1");
        run("AFFECTED: as it was behind what is not done",
                nodes(2), "source(0, 0) = -1; put(0, 1, 1) = NONE; put(1, 0, -2) = REFUSED; take(1, 0) = NONE",
                "put(0, 2, 1) = BAD; end() = TURN; affected(0) = 2; node() = 2; affected(0) = 2");
    }

    private static void termsOfRefused() {
        run("REFUSED: below 0; 0 is not",
                chain(3, 2), "put(2, 0, -5) = REFUSED; arc(2, 0) = NONE; count(1) = 2; put(2, 0, -4) = NONE; arc(2, 0) = -4");
        run("REFUSED: if there is a WAY; without one nothing is",
                nodes(3), "put(0, 1, -1000) = NONE; put(1, 2, -1000) = NONE; put(0, 2, -1000) = NONE",
                "put(2, 0, 1000) = REFUSED; put(1, 0, 999) = REFUSED; put(1, 0, 1000) = NONE");
        run("REFUSED: the least WAY back counts, not one with fewer ARCS",
                chain(4, 1), "put(0, 3, 9) = NONE; put(3, 0, -4) = REFUSED; put(3, 0, -3) = NONE");
        run("REFUSED: without the ARC from a to b, so that one may get less",
                nodes(2), "put(0, 1, -5) = NONE; put(0, 1, -1000) = -5; put(0, 1, 1000) = -1000; put(1, 0, -900) = NONE",
                "put(0, 1, 900) = 1000; put(0, 1, 899) = REFUSED; arc(0, 1) = 900; put(0, 1, 900) = 900");
        run("REFUSED: a LENGTH of 0 or more, too",
                nodes(3), "put(0, 1, -10) = NONE; put(1, 2, 3) = NONE; put(2, 0, 6) = REFUSED; put(2, 0, 7) = NONE",
                "put(1, 2, 0) = REFUSED; put(1, 2, 2) = REFUSED; put(1, 2, 4) = 3");
        run("REFUSED: what goes is never",
                nodes(2), "put(0, 1, 5) = NONE; put(1, 0, -5) = NONE; take(0, 1) = 5; put(1, 0, -1000) = -5",
                "put(0, 1, 999) = REFUSED; put(0, 1, 1000) = NONE");
        run("REFUSED: nor what an UNDO brings back",
                nodes(2), "put(0, 1, 5) = NONE; put(1, 0, -5) = NONE; take(1, 0) = -5; put(0, 1, 0) = 5; put(1, 0, -1) = REFUSED",
                "undo() = 3; undo() = 2; arc(0, 1) = 5; arc(1, 0) = -5");
    }

    private static void termsOfRefusedInBatches() {
        run("REFUSED: in the net as it is then, with what came in the BATCH",
                nodes(2), "begin() = 1; put(0, 1, 5) = NONE; put(1, 0, -6) = REFUSED; count(3) = 1; put(1, 0, -5) = NONE",
                "count(3) = 2; end() = 2");
        run("REFUSED: in the net as it is then, without what went in the BATCH",
                chain(3, 2), "begin() = 1; put(2, 0, -5) = REFUSED; take(1, 2) = 2; put(2, 0, -5) = NONE",
                "put(1, 2, 2) = REFUSED; put(1, 2, 3) = NONE; end() = 3");
        run("REFUSED: in the net as it is then, behind an UNDO",
                nodes(2), "put(0, 1, 5) = NONE; put(0, 1, 9) = 5; put(1, 0, -9) = NONE; undo() = 2; undo() = 1",
                "put(1, 0, -6) = REFUSED; put(1, 0, -5) = NONE");
        run("REFUSED: is no CHANGE of the BATCH, so it has 30 beside it",
                nodes(2), "begin() = 1; put(0, 1, 0) = NONE", times(5, "put(1, 0, -1) = REFUSED; count(3) = 1"),
                each(0, 28, "put(0, 1, #)"), "count(3) = 30; put(0, 1, 29) = FULL; end() = 30");
    }

    private static void termsOfTheRing() {
        run("THE RING: from b on THE WAY to a",
                chain(5, 1), "put(3, 1, -3) = REFUSED; ring(-1) = 3; ring(0) = 1; ring(1) = 2; ring(2) = 3; ring(3) = BAD");
        run("THE RING: of two NODES",
                nodes(3), "put(2, 0, 4) = NONE; put(0, 2, -5) = REFUSED; ring(-1) = 2; ring(0) = 2; ring(1) = 0; ring(2) = BAD");
        run("THE RING: of 24 NODES",
                chain(24, 0), "put(23, 0, -1) = REFUSED; ring(-1) = 24", each(0, 23, "ring(#) = #"), "ring(24) = BAD");
        run("THE RING: on a least WAY, also if another one falls",
                nodes(4), "put(0, 3, -1) = NONE; put(0, 2, -2) = NONE; put(2, 3, -3) = NONE",
                "put(3, 0, 0) = REFUSED; ring(-1) = 3; ring(0) = 0; ring(1) = 2; ring(2) = 3");
        run("THE RING: with the fewest ARCS",
                nodes(4), "put(0, 1, 1); put(1, 3, 1); put(0, 3, 3) = NONE; put(3, 0, -4) = REFUSED; ring(-1) = 3",
                "put(0, 3, 2) = 3; put(3, 0, -4) = REFUSED; ring(-1) = 2; ring(1) = 3");
        run("THE RING: with the least PARENTS",
                nodes(5), "put(0, 3, 1); put(3, 4, 1); put(0, 2, 1); put(2, 4, 1); put(4, 0, -3) = REFUSED; ring(1) = 2",
                "put(0, 1, 1); put(1, 4, 2); put(4, 0, -3) = REFUSED; ring(1) = 2; put(1, 4, 1) = 2",
                "put(4, 0, -3) = REFUSED; ring(1) = 1; ring(-1) = 3");
        run("THE RING: in that net, without the ARC from a to b",
                nodes(3), "put(0, 1, 5); put(1, 2, 5); put(2, 0, -10) = NONE; put(2, 0, -11) = REFUSED",
                "ring(-1) = 3; ring(0) = 0; ring(1) = 1; ring(2) = 2; arc(2, 0) = -10");
        run("THE RING: in that net, with the CHANGES of the BATCH",
                chain(3, 1), "begin() = 1; put(0, 2, 0) = NONE; put(2, 0, -1) = REFUSED; ring(-1) = 2; ring(0) = 0; ring(1) = 2",
                "take(0, 2) = 0; put(2, 0, -3) = REFUSED; ring(-1) = 3; ring(1) = 1; end() = 2; ring(-1) = 3");
        run("THE RING: no SOURCE is told by it",
                chain(3, 1), "source(1, 2) = -1; put(2, 0, -3) = REFUSED; distance(0, 0) = NONE; distance(1, 0) = NONE",
                "source(0, -1) = -1; source(1, -1) = 2; source(2, -1) = -1");
    }

    private static void termsOfKept() {
        run("KEPT are the latest 40: 39, 40, and no more",
                nodes(2), each(1, 39, "put(0, 1, #)"), "count(2) = 39; put(0, 1, 40) = 39; count(2) = 40",
                "put(0, 1, 41) = 40; count(2) = 40; put(0, 1, 42) = 41; count(2) = 40");
        run("KEPT are the latest 40: all of 40 are taken back",
                nodes(2), each(1, 40, "put(0, 1, #)"), times(39, "undo()"), "arc(0, 1) = 1; count(2) = 1; undo() = 0",
                "arc(0, 1) = NONE; undo() = NONE; count(2) = 0");
        run("KEPT are the latest 40: the first of 41 stays",
                nodes(2), each(1, 41, "put(0, 1, #)"), times(39, "undo()"), "arc(0, 1) = 2; count(2) = 1; undo() = 0",
                "arc(0, 1) = 1; undo() = NONE; arc(0, 1) = 1; count(2) = 0");
        run("KEPT are the latest 40: the first 42 of 82 stay",
                nodes(2), each(1, 82, "put(0, 1, #)"), times(39, "undo()"), "arc(0, 1) = 43; undo() = 0",
                "arc(0, 1) = 42; undo() = NONE; arc(0, 1) = 42");
        run("KEPT: BATCHES each as one",
                nodes(2), times(40, "begin() = 1; put(0, 1, 5); put(0, 1, 6); take(0, 1) = 6; end() = 3"), "count(2) = 40",
                "begin() = 1; put(0, 1, 7) = NONE; end() = 1; count(2) = 40; undo() = 39; arc(0, 1) = NONE; count(5) = 121");
        run("KEPT: BATCHES of 30, more than 40 with other CHANGES, and which one is dropped",
                nodes(2), "put(0, 1, 1) = NONE; begin() = 1", each(2, 31, "put(0, 1, #)"), "end() = 30; count(2) = 2",
                each(32, 70, "put(0, 1, #)"), "count(2) = 40", times(39, "undo()"), "arc(0, 1) = 31; undo() = 0",
                "arc(0, 1) = 1; undo() = NONE; arc(0, 1) = 1");
        run("KEPT: a BATCH that is open is none yet, and drops nothing yet",
                nodes(2), each(1, 40, "put(0, 1, #)"), "begin() = 1; put(0, 1, 41) = 40; count(2) = 40; undo() = TURN",
                "end() = 1; count(2) = 40", times(39, "undo()"), "arc(0, 1) = 2; undo() = 0; arc(0, 1) = 1; undo() = NONE");
        run("KEPT: BATCHES with at least one CHANGE; none without",
                nodes(2), each(1, 40, "put(0, 1, #)"), times(3, "begin() = 1; end() = 0"), "count(2) = 40",
                times(40, "undo()"), "arc(0, 1) = NONE; undo() = NONE");
        run("KEPT: BATCHES with at least one CHANGE; one that had calls which were not done has none",
                nodes(2), "put(0, 1, 3) = NONE; begin() = 1; take(1, 0) = NONE; put(1, 0, -4) = REFUSED; put(0, 0, 1) = BAD",
                "end() = 0; count(2) = 1; begin() = 1; put(0, 1, 3) = 3; end() = 1; count(2) = 2; undo() = 1; arc(0, 1) = 3");
    }

    private static void termsOfUndo() {
        run("UNDO: the latest of them is taken back",
                nodes(3), "put(0, 1, 3) = NONE; put(1, 2, 4) = NONE; take(0, 1) = 3; put(1, 2, 5) = 4",
                "undo() = 3; arc(1, 2) = 4; arc(0, 1) = NONE; undo() = 2; arc(0, 1) = 3; undo() = 1; arc(1, 2) = NONE",
                "undo() = 0; arc(0, 1) = NONE; count(1) = 0; undo() = NONE");
        run("UNDO: each ARC is as it was ahead of it, of a BATCH that had one more than once",
                nodes(3), "put(0, 1, 3) = NONE; begin() = 1; put(0, 1, 4); put(0, 1, 5); take(0, 1) = 5; put(0, 1, 6) = NONE",
                "put(1, 2, 7) = NONE; take(1, 2) = 7; put(1, 2, 8) = NONE; end() = 7; undo() = 1",
                "arc(0, 1) = 3; arc(1, 2) = NONE; count(1) = 1");
        run("UNDO: each ARC is as it was ahead of it, of a BATCH with 30 ARCS",
                nodes(7), "put(0, 6, 1) = NONE; begin() = 1", each(1, 6, "put(0, #, 10)"), each(2, 6, "put(1, #, 10)"),
                each(3, 6, "put(2, #, 10)"), each(4, 6, "put(3, #, 10)"), each(0, 4, "put(5, #, 10)"), each(0, 4, "put(6, #, 10)"),
                "put(4, 5, 10); put(4, 6, 10); count(3) = 30; count(1) = 30; put(4, 0, 1) = FULL; end() = 30",
                "undo() = 1; count(1) = 1; arc(0, 6) = 1; arc(4, 6) = NONE; arc(0, 1) = NONE");
        run("UNDO: is KEPT no more, and what comes behind it is KEPT in its place",
                nodes(2), "put(0, 1, 1); put(0, 1, 2); put(0, 1, 3) = 2; undo() = 2; arc(0, 1) = 2; put(0, 1, 9) = 2",
                "count(2) = 3; undo() = 2; arc(0, 1) = 2; undo() = 1; arc(0, 1) = 1");
        run("UNDO: at 40 KEPT, and one more behind it",
                nodes(2), each(1, 45, "put(0, 1, #)"), "undo() = 39; put(0, 1, 100) = 44; count(2) = 40",
                "put(0, 1, 101) = 100; count(2) = 40; undo() = 39; arc(0, 1) = 100; undo() = 38; arc(0, 1) = 44",
                times(37, "undo()"), "arc(0, 1) = 7; undo() = 0; arc(0, 1) = 6; undo() = NONE");
        run("UNDO: NODES, SOURCES and THE RING are not taken back",
                nodes(2), "put(0, 1, 1) = NONE; node() = 2; source(0, 2) = -1; put(1, 0, -2) = REFUSED; undo() = 0",
                "count(0) = 3; distance(0, 2) = 0; ring(-1) = 2; ring(0) = 0; ring(1) = 1");
        run("UNDO: a BATCH behind it begins without CHANGES",
                nodes(2), "begin() = 1; put(0, 1, 1); put(0, 1, 2); end() = 2; undo() = 0; count(3) = 0; begin() = 1",
                "count(3) = 0", each(1, 30, "put(0, 1, #)"), "count(3) = 30; put(0, 1, 31) = FULL; end() = 30; undo() = 0",
                "arc(0, 1) = NONE");
    }

    private static void whichAnswerGoesAhead() {
        run("TURN ahead of FULL", nodes(24), "begin() = 1; node() = TURN; end() = 0; node() = FULL");
        run("BAD ahead of TURN",
                nodes(2), "begin() = 1; source(0, 2) = BAD; source(0, -2) = BAD; source(3, 0) = BAD; source(-1, 0) = BAD",
                "source(0, 1) = TURN; source(0, -1) = TURN; end() = 0; source(0, 1) = -1");
        run("BAD ahead of FULL",
                nodes(2), "begin() = 1", each(1, 30, "put(0, 1, #)"),
                "put(0, 0, 1) = BAD; put(0, 2, 1) = BAD; put(-1, 1, 1) = BAD; put(0, 1, 1001) = BAD; put(0, 1, -1001) = BAD",
                "take(0, 0) = BAD; take(0, 2) = BAD; take(-1, 1) = BAD; put(0, 1, 1000) = FULL; take(0, 1) = FULL");
        run("BAD ahead of REFUSED",
                nodes(2), "put(0, 1, 1) = NONE; put(1, 0, -1001) = BAD; ring(-1) = 0; put(1, 0, -1000) = REFUSED; ring(-1) = 2");
        run("FULL ahead of REFUSED, and then there is no new RING",
                nodes(3), "put(1, 2, 0) = NONE; put(2, 1, -1) = REFUSED; begin() = 1", each(1, 29, "put(0, 1, #)"),
                "put(1, 0, -30) = REFUSED; ring(0) = 0; put(2, 1, -1) = REFUSED; ring(0) = 1; put(0, 1, 30) = 29",
                "put(1, 0, -31) = FULL; ring(-1) = 2; ring(0) = 1; ring(1) = 2; end() = 30; put(1, 0, -31) = REFUSED; ring(0) = 0");
        run("FULL ahead of NONE",
                nodes(2), "begin() = 1", each(1, 29, "put(0, 1, #)"), "take(1, 0) = NONE; take(0, 1) = 29",
                "take(0, 1) = FULL; take(1, 0) = FULL; put(0, 1, 1) = FULL; arc(0, 1) = NONE; end() = 30; take(0, 1) = NONE");
        run("TURN ahead of NONE", "begin() = 1; undo() = TURN; end() = 0; undo() = NONE");
        run("BAD ahead of NONE",
                nodes(2), "distance(3, 0) = BAD; distance(0, 2) = BAD; hops(-1, 0) = BAD; hops(0, -1) = BAD",
                "parent(3, 1) = BAD; parent(0, 2) = BAD; way(3, 0, 0) = BAD; way(0, 2, 0) = BAD; arc(0, 2) = BAD; arc(2, 0) = BAD",
                "distance(0, 0) = NONE; hops(0, 0) = NONE; parent(0, 0) = NONE; way(0, 0, 0) = NONE; arc(0, 1) = NONE");
        run("REFUSED ahead of NONE: an ARC that is not there, and would fall",
                nodes(2), "put(0, 1, 1) = NONE; put(1, 0, -2) = REFUSED; arc(1, 0) = NONE; put(1, 0, -1) = NONE; arc(1, 0) = -1");
    }

    private static void promises1To3() {
        run("1: No NODES, no SOURCES",
                each(0, 5, "count(#) = 0"), each(0, 2, "distance(#, 0) = BAD; affected(#) = 0; tight(#) = 0; source(#, -1) = -1"),
                "source(0, 0) = BAD; put(0, 1, 1) = BAD; take(0, 1) = BAD; arc(0, 1) = BAD; ring(-1) = 0; ring(0) = BAD",
                "undo() = NONE; end() = TURN; begin() = 1; end() = 0; node() = 0");
        run("2: A NODE more, without ARCS: its number",
                "node() = 0; count(0) = 1; arc(0, 1) = BAD; node() = 1; count(0) = 2; arc(0, 1) = NONE; arc(1, 0) = NONE",
                "put(0, 1, 1) = NONE; node() = 2; count(1) = 1; arc(0, 2) = NONE; arc(2, 0) = NONE; arc(1, 2) = NONE");
        run("2: A NODE more, behind a SOURCE that is told",
                "node() = 0; source(0, 0) = -1; distance(0, 1) = BAD; node() = 1; distance(0, 1) = NONE; parent(0, 1) = NONE",
                "affected(0) = 0; put(0, 1, 8) = NONE; distance(0, 1) = 8");
        run("2: TURN: in a BATCH",
                "begin() = 1; node() = TURN; count(0) = 0; end() = 0; node() = 0; begin() = 1; node() = TURN; count(0) = 1",
                "end() = 0; node() = 1");
        run("2: FULL: 24", nodes(23), "node() = 23; node() = FULL; node() = FULL; count(0) = 24");
        run("3: what it was (- 1: none)",
                nodes(2), "source(0, 0) = -1; source(0, 1) = 0; source(0, 1) = 1; source(0, -1) = 1; source(0, -1) = -1",
                "source(0, 0) = -1; source(2, 1) = -1; source(0, 1) = 0; source(2, 0) = 1");
        run("3: BAD: no SOURCE 0 .. 2",
                nodes(1), "source(-1, 0) = BAD; source(0, 0) = -1; source(2, 0) = -1; source(3, 0) = BAD",
                "source(" + LEAST + ", 0) = BAD; source(" + MOST + ", -1) = BAD");
        run("3: BAD: no NODE, and not - 1",
                nodes(2), "source(0, 1) = -1; source(0, 2) = BAD; source(0, -2) = BAD; source(0, " + MOST + ") = BAD",
                "source(0, " + LEAST + ") = BAD; source(0, 24) = BAD; source(0, -1) = 1; node() = 2; source(0, 2) = -1");
        run("3: TURN: in a BATCH",
                chain(2, 3), "source(0, 0) = -1; begin() = 1; source(0, 1) = TURN; source(0, -1) = TURN; source(1, 0) = TURN",
                "distance(0, 1) = 3; distance(1, 0) = NONE; end() = 0; source(0, 1) = 0; source(1, 0) = -1; distance(1, 1) = 3");
    }

    private static void promises4To6() {
        run("4: the LENGTH that it had; NONE: there was none (it is there now)",
                nodes(2), "put(0, 1, 0) = NONE; arc(0, 1) = 0; put(0, 1, -4) = 0; put(0, 1, -4) = -4; take(0, 1) = -4",
                "put(0, 1, 2) = NONE; arc(0, 1) = 2; count(1) = 1");
        run("4: BAD: no two NODES",
                nodes(3), "put(0, 2, 1) = NONE; put(0, 3, 1) = BAD; put(3, 0, 1) = BAD; put(2, 0, 1) = NONE; put(-1, 0, 1) = BAD",
                "put(0, -1, 1) = BAD; put(1, 1, 1) = BAD; put(0, 24, 1) = BAD; put(24, 0, 1) = BAD",
                "put(" + LEAST + ", 0, 1) = BAD; put(0, " + LEAST + ", 1) = BAD; put(" + MOST + ", 0, 1) = BAD; put(0, " + MOST + ", 1) = BAD");
        run("4: BAD: another LENGTH",
                nodes(2), "put(0, 1, 1001) = BAD; put(0, 1, 1000) = NONE; put(1, 0, -1001) = BAD; put(1, 0, -1000) = NONE",
                "put(0, 1, " + LEAST + ") = BAD; put(0, 1, " + MOST + ") = BAD; arc(0, 1) = 1000; arc(1, 0) = -1000");
        run("4: FULL: the BATCH has 30 CHANGES",
                nodes(3), "begin() = 1", each(1, 29, "put(0, 1, #)"), "count(3) = 29; put(0, 1, 30) = 29; count(3) = 30",
                "put(0, 1, 31) = FULL; put(0, 1, 30) = FULL; put(1, 2, 1) = FULL; arc(0, 1) = 30; arc(1, 2) = NONE; count(5) = 30",
                "end() = 30; put(0, 1, 31) = 30; put(1, 2, 1) = NONE");
        run("4: FULL: only in a BATCH, and the next one has its own 30",
                nodes(2), each(1, 35, "put(0, 1, #)"), "begin() = 1", each(1, 30, "put(0, 1, #)"), "put(0, 1, 0) = FULL; end() = 30",
                "begin() = 1", each(1, 30, "put(0, 1, #)"), "put(0, 1, 0) = FULL; end() = 30; put(0, 1, 0) = 30");
        run("4: REFUSED: nothing is changed, of an ARC that is there or is not",
                chain(3, 1), "source(0, 0) = -1; put(2, 1, -2) = REFUSED; arc(2, 1) = NONE; count(1) = 2; put(2, 1, 4) = NONE",
                "put(2, 1, -2) = REFUSED; arc(2, 1) = 4; count(1) = 3; count(2) = 3; count(5) = 3; distance(0, 2) = 2");
        run("5: its LENGTH; NONE: there is none (that is no CHANGE)",
                nodes(2), "take(0, 1) = NONE; count(5) = 0; put(0, 1, -1000) = NONE; take(1, 0) = NONE; take(0, 1) = -1000",
                "count(5) = 2; take(0, 1) = NONE; count(5) = 2; count(2) = 2");
        run("5: that is no CHANGE, of a BATCH either",
                nodes(2), "begin() = 1; take(0, 1) = NONE; count(3) = 0; end() = 0; count(2) = 0");
        run("5: BAD: no two NODES",
                chain(3, 1), "take(2, 3) = BAD; take(3, 2) = BAD; take(-1, 0) = BAD; take(0, -1) = BAD; take(1, 1) = BAD",
                "take(" + LEAST + ", 1) = BAD; take(0, " + MOST + ") = BAD; take(0, 24) = BAD; take(1, 2) = 1");
        run("5: FULL: the BATCH has 30 CHANGES",
                nodes(2), "begin() = 1", times(14, "put(0, 1, 1) = NONE; take(0, 1) = 1"), "put(0, 1, 2) = NONE; count(3) = 29",
                "take(0, 1) = 2; count(3) = 30; take(0, 1) = FULL; end() = 30; put(0, 1, 1) = NONE; take(0, 1) = 1");
        run("5: FULL: the ARC stays",
                nodes(2), "begin() = 1", each(1, 30, "put(0, 1, #)"), "take(0, 1) = FULL; arc(0, 1) = 30; count(1) = 1; end() = 30",
                "take(0, 1) = 30");
        run("6: The LENGTH of the ARC from a to b, as it is told",
                nodes(2), "put(0, 1, -1000) = NONE; arc(0, 1) = -1000; begin() = 1; put(0, 1, 1000) = -1000; arc(0, 1) = 1000",
                "take(0, 1) = 1000; arc(0, 1) = NONE; end() = 2; arc(0, 1) = NONE; undo() = 1; arc(0, 1) = -1000");
        run("6: BAD: no two NODES. NONE: there is none",
                nodes(3), "arc(0, 1) = NONE; arc(2, 0) = NONE; arc(0, 3) = BAD; arc(3, 0) = BAD; arc(-1, 0) = BAD; arc(0, -1) = BAD",
                "arc(2, 2) = BAD; arc(" + MOST + ", 0) = BAD; arc(0, " + LEAST + ") = BAD; arc(0, 24) = BAD; arc(24, 23) = BAD");
    }

    private static void promises7To9() {
        run("7: A BATCH begins: 1. TURN: there is one",
                "begin() = 1; count(4) = 1; begin() = TURN; begin() = TURN; count(4) = 1; end() = 0; begin() = 1; end() = 0");
        run("7: TURN: the BATCH that there is keeps its CHANGES",
                nodes(2), "begin() = 1; put(0, 1, 1) = NONE; begin() = TURN; count(3) = 1; end() = 1; undo() = 0; arc(0, 1) = NONE");
        run("8: how many CHANGES it had: none, one, 30",
                nodes(2), "begin() = 1; end() = 0; begin() = 1; put(0, 1, 1) = NONE; end() = 1; begin() = 1",
                each(1, 30, "put(0, 1, #)"), "end() = 30; count(2) = 2; count(5) = 31");
        run("8: TURN: there is none",
                nodes(2), "end() = TURN; put(0, 1, 1) = NONE; end() = TURN; begin() = 1; end() = 0; end() = TURN; count(4) = 0");
        run("8: TURN: what is AFFECTED stays",
                nodes(2), "source(0, 0) = -1; put(0, 1, 1) = NONE; end() = TURN; affected(0) = 2");
        run("9: how many are KEPT still",
                nodes(2), each(1, 3, "put(0, 1, #)"), "undo() = 2; count(2) = 2; undo() = 1; undo() = 0; undo() = NONE; count(2) = 0");
        run("9: TURN: in a BATCH",
                nodes(2), "put(0, 1, 1) = NONE; begin() = 1; undo() = TURN; arc(0, 1) = 1; put(0, 1, 2) = 1; undo() = TURN",
                "arc(0, 1) = 2; end() = 1; undo() = 1; arc(0, 1) = 1; undo() = 0");
        run("9: NONE: there is nothing KEPT",
                nodes(2), "undo() = NONE; source(0, 0) = -1; begin() = 1; end() = 0; undo() = NONE; put(0, 1, 1) = NONE",
                "undo() = 0; undo() = NONE; affected(0) = 2; count(5) = 1");
    }

    private static void byNode(String name, String rest) {
        run(name + ": BAD: no SOURCE 0 .. 2",
                nodes(2), "source(0, 0); source(2, 0); " + name + "(-1, 0" + rest + ") = BAD; " + name + "(3, 0" + rest + ") = BAD",
                name + "(" + LEAST + ", 0" + rest + ") = BAD; " + name + "(" + MOST + ", 0" + rest + ") = BAD",
                name + "(-1, 9" + rest + ") = BAD");
        run(name + ": BAD: no NODE",
                nodes(3), "source(0, 0); " + name + "(0, 3" + rest + ") = BAD; " + name + "(0, -1" + rest + ") = BAD",
                name + "(0, 24" + rest + ") = BAD; " + name + "(0, " + MOST + rest + ") = BAD",
                name + "(0, " + LEAST + rest + ") = BAD; " + name + "(1, 3" + rest + ") = BAD; " + name + "(0, 2" + rest + ") = NONE");
        run(name + ": NONE: that SOURCE is none, or there is none",
                chain(3, 1), each(0, 2, name + "(#, 1" + rest + ") = NONE"), "source(1, 1); " + name + "(1, 0" + rest + ") = NONE",
                name + "(0, 2" + rest + ") = NONE; " + name + "(2, 2" + rest + ") = NONE; source(1, -1) = 1",
                name + "(1, 1" + rest + ") = NONE; " + name + "(1, 2" + rest + ") = NONE");
    }

    private static void promises10To12() {
        byNode("distance", "");
        byNode("hops", "");
        byNode("parent", "");
        run("10: The DISTANCE of a NODE by SOURCE k, each its own",
                chain(4, 3), each(0, 2, "source(#, #) = -1"), each(0, 2, "distance(#, #) = 0; distance(#, #+1) = 3"),
                "distance(0, 3) = 9; distance(1, 3) = 6; distance(2, 3) = 3; distance(1, 0) = NONE");
        run("11: The HOPS of a NODE, each SOURCE its own",
                chain(4, 3), each(0, 2, "source(#, #) = -1"), each(0, 2, "hops(#, #) = 0; hops(#, #+1) = 1"),
                "hops(0, 3) = 3; hops(1, 3) = 2; hops(2, 3) = 1; hops(1, 0) = NONE");
        run("12: NONE: also of the SOURCE itself, and of that one only",
                chain(3, 1), "source(0, 1) = -1; source(1, 0) = -1; parent(0, 1) = NONE; parent(1, 1) = 0; parent(0, 2) = 1",
                "parent(1, 0) = NONE; parent(0, 0) = NONE; put(2, 0, -2) = NONE; parent(0, 1) = NONE; parent(0, 0) = 2");
    }

    private static void promise13() {
        byNode("way", ", 0");
        byNode("way", ", -1");
        byNode("way", ", 99");
        run("13: NODE i on THE WAY (0 the SOURCE's); i = - 1: how many; BAD: no such i",
                chain(4, 1), "source(0, 1) = -1; way(0, 3, -1) = 3; way(0, 3, 0) = 1; way(0, 3, 1) = 2; way(0, 3, 2) = 3",
                "way(0, 3, 3) = BAD; way(0, 3, -2) = BAD; way(0, 3, " + MOST + ") = BAD; way(0, 3, " + LEAST + ") = BAD");
        run("13: to the SOURCE itself",
                nodes(2), "source(0, 1) = -1; way(0, 1, -1) = 1; way(0, 1, 0) = 1; way(0, 1, 1) = BAD; way(0, 1, -2) = BAD");
        run("13: NONE ahead of BAD for i, BAD for k and v ahead of NONE",
                nodes(2), "source(0, 0) = -1; way(0, 1, -2) = NONE; way(0, 1, 0) = NONE; way(0, 1, 1) = NONE; way(0, 1, 99) = NONE",
                "way(1, 1, -2) = NONE; way(1, 0, " + MOST + ") = NONE; way(1, 2, -2) = BAD; way(3, 1, 0) = BAD; way(0, 0, 9) = BAD");
        run("13: of 24 NODES",
                chain(24, -1), "source(2, 0) = -1; way(2, 23, -1) = 24", each(0, 23, "way(2, 23, #) = #"),
                "way(2, 23, 24) = BAD; way(2, 23, 25) = BAD; way(2, 22, 23) = BAD; way(2, 22, 22) = 22");
    }

    private static void promises14To17() {
        run("14: BAD: not 0 .. 2",
                "affected(-1) = BAD; affected(0) = 0; affected(1) = 0; affected(2) = 0; affected(3) = BAD",
                "affected(" + LEAST + ") = BAD; affected(" + MOST + ") = BAD");
        run("14: as bits, by each SOURCE its own",
                chain(4, 1), each(0, 2, "source(#, #) = -1"), "put(1, 2, 2) = 1; affected(0) = 12; affected(1) = 12; affected(2) = 0",
                "put(2, 3, 2) = 1; affected(0) = 8; affected(1) = 8; affected(2) = 8; put(0, 1, 0) = 1; affected(0) = 14; affected(1) = 0");
        run("15: BAD: not 0 .. 2",
                "tight(-1) = BAD; tight(0) = 0; tight(1) = 0; tight(2) = 0; tight(3) = BAD",
                "tight(" + LEAST + ") = BAD; tight(" + MOST + ") = BAD");
        run("15: How many ARCS are TIGHT, by each SOURCE its own: none, all",
                chain(4, 1), each(0, 2, "source(#, #) = -1"), "tight(0) = 3; tight(1) = 2; tight(2) = 1; source(2, 3) = 2; tight(2) = 0");
        run("16: how many (0 before). BAD: none such",
                chain(3, 1), "ring(-1) = 0; ring(0) = BAD; ring(-2) = BAD; put(2, 0, -3) = REFUSED; ring(-1) = 3; ring(2) = 2",
                "ring(3) = BAD; ring(-2) = BAD; ring(" + LEAST + ") = BAD; ring(" + MOST + ") = BAD");
        run("16: of the latest put() that was REFUSED: a shorter one, a longer one, and none of the one before is left",
                chain(4, 1), "put(3, 0, -4) = REFUSED; ring(-1) = 4; put(2, 1, -2) = REFUSED; ring(-1) = 2; ring(0) = 1; ring(1) = 2",
                "ring(2) = BAD; ring(3) = BAD; put(2, 0, -3) = REFUSED; ring(-1) = 3; ring(2) = 2; ring(3) = BAD");
        run("16: it stays, whatever is done",
                chain(3, 1), "put(2, 0, -3) = REFUSED; put(2, 0, -2) = NONE; put(0, 2, 1001) = BAD; take(0, 1) = 1; undo() = 3",
                "begin() = 1; put(0, 1, 2) = 1; end() = 1; source(0, 2) = -1; node() = 3; ring(-1) = 3; ring(0) = 0; ring(2) = 2");
        run("17: 0 NODES, 1 ARCS as they are told, 2 KEPT",
                nodes(3), "count(0) = 3; put(0, 1, 1); put(1, 2, 1); count(1) = 2; count(2) = 2; begin() = 1; take(0, 1) = 1",
                "count(1) = 1; count(2) = 2; end() = 1; count(2) = 3; undo() = 2; count(1) = 2; count(2) = 2");
        run("17: 3 CHANGES of the BATCH (0 without), 4 whether there is a BATCH",
                nodes(2), "put(0, 1, 1) = NONE; count(3) = 0; count(4) = 0; begin() = 1; count(3) = 0; count(4) = 1",
                "put(0, 1, 2) = 1; count(3) = 1; count(4) = 1; end() = 1; count(3) = 0; count(4) = 0; undo() = 1; count(3) = 0");
        run("17: 5 CHANGES in all (UNDO is none)",
                nodes(2), "put(0, 1, 1) = NONE; count(5) = 1; begin() = 1; put(0, 1, 2) = 1; take(0, 1) = 2; count(5) = 3; end() = 2",
                "count(5) = 3; undo() = 1; count(5) = 3; undo() = 0; count(5) = 3", each(1, 41, "put(0, 1, #)"), "count(5) = 44");
        run("17: BAD: another number",
                "count(-1) = BAD; count(0) = 0; count(5) = 0; count(6) = BAD; count(" + LEAST + ") = BAD; count(" + MOST + ") = BAD");
    }
}
