import java.util.ArrayList;
import java.util.List;

/**
 * In states of many kinds, every call with arguments at the edges and beyond them: whether it is BAD,
 * TURN or FULL is what the document says, and what is not done changes nothing.
 */
public final class NotDoneTests {
    private static final int LEAST = Integer.MIN_VALUE, MOST = Integer.MAX_VALUE;
    private static final int[] SOURCES = {LEAST, -2, -1, 0, 1, 2, 3, 24, MOST};
    private static final int[] LENGTHS = {LEAST, -1000000, -1001, -1000, -1, 0, 1000, 1001, MOST};
    private static final int[] NUMBERS = {LEAST, -2, -1, 0, 1, 2, 3, 4, 5, 6, MOST};

    /** What a run has come to, as count() tells it, and the calls that led there. */
    private static final class State {
        final String name;
        final List<Runs.Call> before;
        final int nodes;
        final boolean batch, fullBatch;

        State(String name, String... rows) {
            this.name = name;
            before = Runs.calls(rows);
            KeptPaths x = Runs.after(before);
            nodes = x.count(0);
            batch = x.count(4) == 1;
            fullBatch = x.count(3) == 30;
        }
    }

    public static void main(String[] args) {
        for (State state : states()) {
            for (Runs.Call call : edgeCalls(state.nodes)) {
                look(state, call);
            }
        }
        Runs.finish();
    }

    private static List<State> states() {
        String net = Runs.nodes(5) + "source(0, 0); source(1, 3); source(2, 0); put(0, 1, 2); put(1, 2, -1); put(2, 3, 4);"
                + "put(3, 0, -5); put(0, 3, 5); put(3, 1, -2); put(3, 0, -6); put(1, 4, 1000); put(1, 2, 0); undo();";
        String twoNodes = Runs.nodes(2) + "source(0, 0); source(2, 1);";
        List<State> states = new ArrayList<>();
        states.add(new State("new"));
        states.add(new State("new, in a batch", "begin()"));
        states.add(new State("one node", "node(); source(1, 0)"));
        states.add(new State("no sources", Runs.chain(3, -1)));
        states.add(new State("a net", net));
        states.add(new State("an empty batch", net, "begin()"));
        states.add(new State("a batch", net, "begin(); take(0, 1); put(4, 0, 1); put(2, 3, 4)"));
        states.add(new State("a batch of 29", net, "begin()", Runs.each(1, 29, "put(1, 4, #)")));
        states.add(new State("a batch of 30", net, "begin()", Runs.each(1, 30, "put(1, 4, #)")));
        states.add(new State("all taken back", net, "undo(); ".repeat(6)));
        states.add(new State("40 kept", twoNodes, Runs.each(1, 40, "put(0, 1, #)")));
        states.add(new State("more than 40 changes", twoNodes, Runs.each(1, 50, "put(0, 1, #)")));
        states.add(new State("40 kept and a batch", twoNodes, Runs.each(1, 50, "put(0, 1, #)"), "begin(); put(1, 0, -1)"));
        states.add(new State("40 kept and a batch of 30", twoNodes, Runs.each(1, 50, "put(0, 1, #)"), "begin()",
                Runs.each(1, 30, "put(1, 0, #)")));
        states.add(new State("24 nodes", Runs.chain(24, 1), "source(0, 0); source(1, 12); put(23, 0, -23); put(23, 0, -24)"));
        return states;
    }

    private static List<Runs.Call> edgeCalls(int nodes) {
        int[] places = {LEAST, -1, 0, 1, nodes - 1, nodes, 24, MOST};
        int[] indexes = {LEAST, -2, -1, 0, 1, nodes - 1, nodes, 24, MOST};
        List<Runs.Call> calls = Runs.calls("node(); begin(); end(); undo()");
        for (int a : places) {
            for (int b : places) {
                calls.add(new Runs.Call("take", a, b));
                calls.add(new Runs.Call("arc", a, b));
                for (int length : LENGTHS) {
                    calls.add(new Runs.Call("put", a, b, length));
                }
            }
        }
        for (int k : SOURCES) {
            calls.add(new Runs.Call("affected", k));
            calls.add(new Runs.Call("tight", k));
            calls.add(new Runs.Call("source", k, -2));
            for (int v : places) {
                for (String name : new String[] {"source", "distance", "hops", "parent"}) {
                    calls.add(new Runs.Call(name, k, v));
                }
                for (int i : indexes) {
                    calls.add(new Runs.Call("way", k, v, i));
                }
            }
        }
        for (int what : NUMBERS) {
            calls.add(new Runs.Call("count", what));
            calls.add(new Runs.Call("ring", what));
        }
        return calls;
    }

    private static void look(State state, Runs.Call call) {
        KeptPaths x = Runs.after(state.before);
        boolean bad = isBad(state, call, x);
        int answer = call.on(x);
        String what = state.name + ": " + call + " answered " + Runs.named(answer);
        boolean turn = !bad && isTurn(state, call.name);
        boolean full = !bad && !turn && isFull(state, call.name);
        if (bad != (answer == Runs.BAD) || turn != (answer == Runs.TURN) || full != (answer == Runs.FULL)) {
            Runs.fault(what + ", due is " + (bad ? "BAD" : turn ? "TURN" : full ? "FULL" : "another answer"));
        }
        if (Runs.wasNotDone(call, answer) || isQuestion(call.name)) {
            Runs.changesNothing(state.name, state.before, call, answer == Runs.REFUSED);
        }
    }

    private static boolean isQuestion(String name) {
        return "arc distance hops parent way affected tight ring count".contains(name);
    }

    private static boolean isBad(State state, Runs.Call call, KeptPaths x) {
        int[] w = call.with;
        switch (call.name) {
            case "node": case "begin": case "end": case "undo":
                return false;
            case "source":
                return !isSource(w[0]) || w[1] != -1 && !isNode(state, w[1]);
            case "put":
                return !areTwoNodes(state, w[0], w[1]) || w[2] < -1000 || w[2] > 1000;
            case "take": case "arc":
                return !areTwoNodes(state, w[0], w[1]);
            case "distance": case "hops": case "parent":
                return !isSource(w[0]) || !isNode(state, w[1]);
            case "way":
                return !isSource(w[0]) || !isNode(state, w[1])
                        || x.hops(w[0], w[1]) != Runs.NONE && (w[2] < -1 || w[2] > x.hops(w[0], w[1]));
            case "affected": case "tight":
                return !isSource(w[0]);
            case "ring":
                return w[0] < -1 || w[0] >= x.ring(-1);
            default:
                return w[0] < 0 || w[0] > 5;
        }
    }

    private static boolean isTurn(State state, String name) {
        boolean inBatch = "node source begin undo".contains(name);
        return state.batch ? inBatch : name.equals("end");
    }

    private static boolean isFull(State state, String name) {
        return name.equals("node") ? state.nodes == 24 : state.fullBatch && (name.equals("put") || name.equals("take"));
    }

    private static boolean isSource(int k) {
        return k == 0 || k == 1 || k == 2;
    }

    private static boolean isNode(State state, int v) {
        return v >= 0 && v < state.nodes;
    }

    private static boolean areTwoNodes(State state, int a, int b) {
        return isNode(state, a) && isNode(state, b) && a != b;
    }
}
