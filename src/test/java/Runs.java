import java.util.ArrayList;
import java.util.Arrays;
import java.util.LinkedHashMap;
import java.util.List;
import java.util.Map;

/**
 * Runs of calls on new objects, told as rows of text: "put(0, 1, 5) = NONE", or "put(0, 1, 5)" where
 * the answer is not looked at. Behind a call that was not done everything is asked, of one object
 * that had the call and of one that had not: both must tell the same.
 */
final class Runs {
    /** What later calls answer is free, so no run is longer. */
    static final int MOST_CALLS = 512;
    static final int NONE = -1000000, BAD = -2000000, FULL = -3000000, TURN = -4000000, REFUSED = -5000000;
    private static final Map<String, Integer> ANSWERS = new LinkedHashMap<>();

    static {
        ANSWERS.put("NONE", NONE);
        ANSWERS.put("BAD", BAD);
        ANSWERS.put("FULL", FULL);
        ANSWERS.put("TURN", TURN);
        ANSWERS.put("REFUSED", REFUSED);
    }

    private static int wrong = 0;

    private Runs() {
    }

    /** One call with its arguments, as many as it has. */
    static final class Call {
        final String name;
        final int[] with;

        Call(String name, int... with) {
            this.name = name;
            this.with = with;
        }

        static Call of(String text) {
            int open = text.indexOf('(');
            String between = text.substring(open + 1, text.indexOf(')')).trim();
            String[] parts = between.isEmpty() ? new String[0] : between.split(",");
            int[] with = new int[parts.length];
            for (int i = 0; i < parts.length; i++) {
                with[i] = Integer.parseInt(parts[i].trim());
            }
            return new Call(text.substring(0, open).trim(), with);
        }

        int on(KeptPaths x) {
            int[] w = with;
            switch (name) {
                case "node": return x.node();
                case "source": return x.source(w[0], w[1]);
                case "put": return x.put(w[0], w[1], w[2]);
                case "take": return x.take(w[0], w[1]);
                case "arc": return x.arc(w[0], w[1]);
                case "begin": return x.begin();
                case "end": return x.end();
                case "undo": return x.undo();
                case "distance": return x.distance(w[0], w[1]);
                case "hops": return x.hops(w[0], w[1]);
                case "parent": return x.parent(w[0], w[1]);
                case "way": return x.way(w[0], w[1], w[2]);
                case "affected": return x.affected(w[0]);
                case "tight": return x.tight(w[0]);
                case "ring": return x.ring(w[0]);
                case "count": return x.count(w[0]);
                default: throw new IllegalArgumentException("no such call: " + name);
            }
        }

        @Override
        public String toString() {
            String between = Arrays.toString(with);
            return name + "(" + between.substring(1, between.length() - 1) + ")";
        }
    }

    static String named(int answer) {
        for (Map.Entry<String, Integer> known : ANSWERS.entrySet()) {
            if (known.getValue() == answer) {
                return known.getKey();
            }
        }
        return Integer.toString(answer);
    }

    static void fault(String text) {
        wrong++;
        if (wrong <= 50) {
            System.out.println(text);
        }
    }

    static void due(String what, int got, int want) {
        if (got != want) {
            fault(what + " answered " + named(got) + ", due is " + named(want));
        }
    }

    /** Ends the program as a test has to. */
    static void finish() {
        System.out.println(wrong == 0 ? "all answers are as due" : wrong + " answers are not as due");
        if (wrong != 0) {
            System.exit(1);
        }
    }

    static List<Call> calls(String... rows) {
        List<Call> calls = new ArrayList<>();
        for (String text : rows) {
            for (String row : text.split(";")) {
                if (!row.isBlank()) {
                    calls.add(Call.of(row));
                }
            }
        }
        return calls;
    }

    /** A row may hold several, with ';' between them. Answers how many calls that were. */
    static int run(String sentence, String... rows) {
        KeptPaths x = new KeptPaths();
        List<Call> before = new ArrayList<>();
        for (String text : rows) {
            for (String row : text.split(";")) {
                if (!row.isBlank()) {
                    oneRow(sentence, row, x, before);
                }
            }
        }
        if (before.size() > MOST_CALLS) {
            fault(sentence + ": the test itself has " + before.size() + " calls");
        }
        return before.size();
    }

    private static void oneRow(String sentence, String row, KeptPaths x, List<Call> before) {
        Call call = Call.of(row);
        int answer = call.on(x);
        int equals = row.indexOf('=');
        if (equals >= 0) {
            String told = row.substring(equals + 1).trim();
            int want = ANSWERS.containsKey(told) ? ANSWERS.get(told) : Integer.parseInt(told);
            due(sentence + ": " + call + " behind " + before.size() + " calls", answer, want);
        }
        if (wasNotDone(call, answer)) {
            changesNothing(sentence, before, call, answer == REFUSED);
        }
        before.add(call);
    }

    static boolean wasNotDone(Call call, int answer) {
        return ANSWERS.containsValue(answer) && !(call.name.equals("put") && answer == NONE);
    }

    /** The ring alone may be another one, and only if the call was refused. */
    static void changesNothing(String sentence, List<Call> before, Call call, boolean newRing) {
        List<Call> with = new ArrayList<>(before);
        with.add(call);
        for (List<Call> tail : tails(before, newRing)) {
            compare(sentence, before, with, tail);
        }
    }

    private static void compare(String sentence, List<Call> before, List<Call> with, List<Call> tail) {
        KeptPaths x = after(before);
        KeptPaths y = after(with);
        for (Call question : tail) {
            int want = question.on(x);
            int got = question.on(y);
            if (got != want) {
                fault(sentence + ": behind " + with.get(with.size() - 1) + " (call " + with.size() + "), which was"
                        + " not done, " + question + " answered " + named(got) + ", without it " + named(want));
                return;
            }
        }
    }

    static KeptPaths after(List<Call> calls) {
        KeptPaths x = new KeptPaths();
        for (Call call : calls) {
            call.on(x);
        }
        return x;
    }

    /** What is asked of an object behind these calls, in as many parts as the calls that are left ask for. */
    private static List<List<Call>> tails(List<Call> before, boolean newRing) {
        int nodes = after(before).count(0);
        int left = MOST_CALLS - 1 - before.size();
        List<List<Call>> tails = new ArrayList<>();
        List<Call> questions = questions(nodes, newRing);
        for (int from = 0; from < questions.size() && left > 0; from += left) {
            tails.add(questions.subList(from, Math.min(questions.size(), from + left)));
        }
        List<Call> takenBack = takeAllBack();
        tails.add(takenBack.subList(0, Math.min(takenBack.size(), left)));
        List<Call> goesOn = goOn(nodes);
        tails.add(goesOn.subList(0, Math.min(goesOn.size(), left)));
        return tails;
    }

    private static List<Call> questions(int nodes, boolean newRing) {
        List<Call> all = new ArrayList<>();
        for (int what = 0; what <= 5; what++) {
            all.add(new Call("count", what));
        }
        for (int i = -1; i <= nodes && !newRing; i++) {
            all.add(new Call("ring", i));
        }
        for (int a = 0; a < nodes; a++) {
            for (int b = 0; b < nodes; b++) {
                all.add(new Call("arc", a, b));
            }
        }
        for (int k = 0; k < 3; k++) {
            all.add(new Call("affected", k));
            all.add(new Call("tight", k));
            for (int v = 0; v < nodes; v++) {
                all.add(new Call("distance", k, v));
                all.add(new Call("hops", k, v));
                all.add(new Call("parent", k, v));
                for (int i = -1; i <= Math.min(nodes, 5); i++) {
                    all.add(new Call("way", k, v, i));
                }
            }
        }
        return all;
    }

    /** What is kept, and how, is seen when it is taken back. */
    private static List<Call> takeAllBack() {
        List<Call> all = calls("end()");
        for (int left = 40; left >= 0; left--) {
            all.addAll(calls("affected(0); affected(1); affected(2); tight(0); count(1); count(2); undo()"));
        }
        all.addAll(calls("source(0, -1); source(1, -1); source(2, -1)"));
        return all;
    }

    /** Where the object goes on from there: a batch up to its last change, new nodes. */
    private static List<Call> goOn(int nodes) {
        List<Call> all = calls("begin()");
        for (int i = 0; i <= 30 && nodes >= 2; i++) {
            all.add(new Call("put", 0, nodes - 1, 990 - i));
        }
        all.addAll(calls("count(2); count(3); count(5); end(); affected(0); affected(1); affected(2); count(2)"));
        for (int v = nodes; v <= 24; v++) {
            all.add(new Call("node"));
        }
        return all;
    }

    /** Rows of one text with '#' in it, for # from one number to another. */
    static String each(int from, int to, String row) {
        StringBuilder rows = new StringBuilder();
        for (int i = from; i <= to; i++) {
            rows.append(row.replace("#+1", Integer.toString(i + 1)).replace("#", Integer.toString(i))).append("; ");
        }
        return rows.toString();
    }

    static String nodes(int many) {
        return each(0, many - 1, "node() = #");
    }

    /** 0 -> 1 -> 2 -> .. along arcs of this length. */
    static String chain(int nodes, int length) {
        return nodes(nodes) + each(0, nodes - 2, "put(#, #+1, " + length + ") = NONE");
    }
}
