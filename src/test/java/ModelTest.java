import java.util.Arrays;
import java.util.Map;
import java.util.TreeMap;

/** Mixed runs of 512 calls, the same at every start, on KeyStates and on the model: both must answer the same. */
public final class ModelTest {
    private static final int RUNS = 3000;
    private static final int CALLS = 512;
    private static final String[] CHANGES = {"put", "add", "set", "fold"};
    private static final String[] OTHERS = {
        "state", "key", "leave", "span", "put", "value", "add", "item", "set", "get", "member", "remove", "fold", "size",
        "clear", "clearSpan", "keys", "keyAt", "snapshot", "drop", "ask", "entries", "restore", "move", "of", "told",
    };
    private static final long[] EDGES = {
        Long.MIN_VALUE, Long.MAX_VALUE, -1001, -1000, 1000, 1001, -1, 0, 1, Integer.MIN_VALUE, Integer.MAX_VALUE, 1L << 32,
    };

    private final Map<String, Integer> seen = new TreeMap<>();
    private long seed = 20261116;
    private int wrong = 0;
    /** How many keys and spans a run uses, and how often of 100 a call is a change or moves and clears much. */
    private int keys;
    private int spans;
    private int changes;
    private int rareCalls;
    private int edges;
    private int kinds;

    public static void main(String[] args) {
        ModelTest test = new ModelTest();
        for (int run = 0; run < RUNS && test.wrong < 10; run++) {
            test.run(run);
        }
        test.requireSeen();
        System.out.println(test.wrong == 0 ? "both answered the same" : test.wrong + " runs are wrong");
        if (test.wrong != 0) {
            System.exit(1);
        }
    }

    private int below(int n) {
        seed = seed * 6364136223846793005L + 1442695040888963407L;
        return (int) Long.remainderUnsigned(seed >>> 33, n);
    }

    private void run(int run) {
        keys = new int[] {1, 3, 40, 1000}[below(4)];
        spans = 1 + below(3);
        changes = new int[] {10, 40, 70, 95}[below(4)];
        rareCalls = new int[] {0, 5, 100}[below(3)];
        edges = below(20);
        kinds = below(6);
        KeyStates x = new KeyStates();
        Model model = new Model();
        StringBuilder log = new StringBuilder();
        for (int n = 0; n < CALLS; n++) {
            String name = n < 4 ? "state" : choose(n);
            long[] args = arguments(name);
            if (Arrays.asList(CHANGES).contains(name) && below(10) > 0) {
                name = changeThatFits(model, args[0], name);
                long state = args[0];
                args = arguments(name);
                args[0] = state;
            }
            String got = Calls.answer(x, name, args);
            String due = Calls.answer(model, name, args);
            log.append("  ").append(name).append(Arrays.toString(args)).append(" = ").append(due).append('\n');
            count(name, due);
            if (!got.equals(due)) {
                wrong++;
                System.out.println("run " + run + ", call " + (n + 1) + " answered " + got + ", due is the last row of\n" + log);
                return;
            }
        }
    }

    /** Mostly the change of the state's kind, for otherwise few would go through. */
    private static String changeThatFits(Model model, long state, String otherwise) {
        String kind = Calls.answer(model, "of", state, 1);
        return kind.startsWith("throws") ? otherwise : CHANGES[Integer.parseInt(kind)];
    }

    private String choose(int n) {
        if (below(100) < changes) {
            // With many keys, every other call is one, so that there is time for 150 entries.
            boolean isKey = keys > 100 ? n % 2 == 0 : below(3) == 0;
            return isKey ? "key" : CHANGES[below(CHANGES.length)];
        }
        String name = OTHERS[below(OTHERS.length)];
        boolean isRare = name.equals("clearSpan") || name.equals("restore") || name.equals("move") || name.equals("leave");
        return isRare && below(100) >= rareCalls ? "told" : name;
    }

    private long[] arguments(String name) {
        switch (name) {
            case "state":
                return new long[] {below(10), kinds < 4 && below(5) > 0 ? kinds : kind(), type()};
            case "key":
                return new long[] {key()};
            case "span":
                return new long[] {span()};
            case "put":
            case "add":
            case "fold":
                return new long[] {state(), number()};
            case "set":
                return new long[] {state(), member(), number()};
            case "get":
            case "remove":
                return new long[] {state(), member()};
            case "item":
            case "member":
            case "keyAt":
                return new long[] {state(), index()};
            case "value":
            case "size":
            case "clear":
            case "keys":
                return new long[] {state()};
            case "drop":
            case "restore":
                return new long[] {snapshot()};
            case "ask":
                return new long[] {snapshot(), state(), key(), span(), index()};
            case "entries":
                return new long[] {snapshot(), state()};
            case "move":
                return new long[] {state(), kind(), type()};
            case "of":
                return new long[] {state(), below(5) - 1};
            case "told":
                return new long[] {below(9) - 1};
            default:
                return new long[0];
        }
    }

    private long edge(long otherwise) {
        return below(100) < edges ? EDGES[below(EDGES.length)] : otherwise;
    }

    private int kind() {
        return below(20) == 0 ? below(7) - 2 : below(4);
    }

    private int type() {
        return below(20) == 0 ? below(6) - 2 : below(3);
    }

    private int state() {
        return below(40) == 0 ? below(12) - 2 : below(4);
    }

    private long key() {
        long key = below(keys) - keys / 3;
        return edge(below(10) == 0 ? key << 32 : key);
    }

    private int span() {
        return (int) edge(below(spans));
    }

    private long member() {
        return edge(below(14) - 5);
    }

    private long number() {
        return edge(below(4) == 0 ? below(2400) - 1200 : below(500));
    }

    private int index() {
        return (int) edge(below(10) == 0 ? below(200) : below(12) - 1);
    }

    private int snapshot() {
        return (int) edge(below(12) - 1);
    }

    private void count(String name, String answer) {
        boolean isCode = answer.equals("-1") || answer.equals("-3") || answer.equals("-4");
        seen.merge(name + " " + (answer.startsWith("throws") || isCode ? answer : "answers"), 1, Integer::sum);
    }

    /** Runs that never come to an edge would prove nothing of it. */
    private void requireSeen() {
        String[] due = {
            "state -1", "state -3", "state -4", "put -4", "add -4", "set -4", "fold -4", "snapshot -4", "move -1", "move -3",
            "move answers", "restore answers", "drop answers", "clearSpan answers", "value throws.NoSuchElementException",
            "get throws.NoSuchElementException", "ask throws.NoSuchElementException", "ask throws.IndexOutOfBoundsException",
            "item throws.IndexOutOfBoundsException", "item throws.IllegalStateException", "item throws.IllegalArgumentException",
            "remove answers", "told -1", "keyAt answers", "ask answers",
        };
        for (String what : due) {
            if (seen.getOrDefault(what, 0) < 20) {
                wrong++;
                System.out.println("too few of " + what + ": " + seen.get(what));
            }
        }
    }
}
