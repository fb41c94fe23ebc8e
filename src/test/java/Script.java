import java.util.ArrayList;
import java.util.Collections;
import java.util.List;
import java.util.TreeSet;

/**
 * Runs of calls written as text, one call a line: "put 0 3 = 1", "key 7", "value 0 = throws.IllegalStateException".
 * What follows a # is left out. After every call that is refused, answers false or throws, the run is made again on new
 * objects, with and without that call, and all that can be asked must be the same.
 */
final class Script {
    private static final int MOST_CALLS = 512;
    private static int wrong = 0;
    private static int runs = 0;
    private static int calls = 0;
    private static int refusals = 0;

    private final String title;
    private final List<String> names = new ArrayList<>();
    private final List<long[]> args = new ArrayList<>();
    private final List<String> due = new ArrayList<>();

    private Script(String title) {
        this.title = title;
    }

    static void run(String title, String text) {
        Script script = new Script(title);
        for (String line : text.split("\n")) {
            script.read(line.replaceFirst("#.*", "").trim());
        }
        script.runAll();
    }

    /** The lines n times, with 0 .. n - 1 for $, 1 .. n for $+1 and 2 .. n + 1 for $+2. */
    static String many(int n, String lines) {
        StringBuilder all = new StringBuilder();
        for (int i = 0; i < n; i++) {
            String plus = lines.replace("$+2", String.valueOf(i + 2)).replace("$+1", String.valueOf(i + 1));
            all.append(plus.replace("$", String.valueOf(i))).append('\n');
        }
        return all.toString();
    }

    /**
     * 150 entries in 177 calls: the states 0 .. 7 have the kinds 0 .. 3 twice and the keys 0 .. 18, but key 18, which is at
     * hand then, has no entry of the states 6 and 7. All have one number, which is the key.
     */
    static String full() {
        StringBuilder all = new StringBuilder();
        for (int state = 0; state < 8; state++) {
            all.append("state ").append(state).append(' ').append(state % 4).append(" 0 = ").append(state).append('\n');
        }
        String key = "key $\nput 0 $ = 1\nadd 1 $ = 1\nset 2 $ $ = 1\nfold 3 $ = 1\nput 4 $ = 1\nadd 5 $ = 1\n";
        all.append(many(18, key + "set 6 $ $ = 1\nfold 7 $ = 1"));
        return all.append(key.replace("$", "18")).toString();
    }

    static void finish() {
        System.out.println(runs + " runs, " + calls + " answers, " + refusals + " refusals that must change nothing: "
                + (wrong == 0 ? "all as due" : wrong + " not as due"));
        if (wrong != 0 || calls == 0) {
            System.exit(1);
        }
    }

    private void read(String line) {
        if (line.isEmpty()) {
            return;
        }
        String[] halves = line.split("=");
        String[] words = halves[0].trim().split(" +");
        long[] numbers = new long[words.length - 1];
        for (int i = 0; i < numbers.length; i++) {
            numbers[i] = number(words[i + 1]);
        }
        names.add(words[0]);
        args.add(numbers);
        due.add(halves.length < 2 ? "nothing" : dueAnswer(halves[1].trim()));
    }

    private static long number(String word) {
        switch (word) {
            case "min":
                return Long.MIN_VALUE;
            case "max":
                return Long.MAX_VALUE;
            case "intmin":
                return Integer.MIN_VALUE;
            case "intmax":
                return Integer.MAX_VALUE;
            default:
                return Long.parseLong(word);
        }
    }

    private static String dueAnswer(String word) {
        switch (word) {
            case "BAD":
                return "-1";
            case "NO":
                return "-3";
            case "FULL":
                return "-4";
            case "index!":
                return "throws.IndexOutOfBoundsException";
            case "argument!":
                return "throws.IllegalArgumentException";
            case "state!":
                return "throws.IllegalStateException";
            case "none!":
                return "throws.NoSuchElementException";
            case "true":
            case "false":
                return word;
            default:
                return String.valueOf(number(word));
        }
    }

    private void runAll() {
        if (names.size() > MOST_CALLS) {
            throw new Error(title + ": " + names.size() + " calls");
        }
        runs++;
        KeyStates x = new KeyStates();
        for (int n = 0; n < names.size(); n++) {
            calls++;
            String got = Calls.answer(x, names.get(n), args.get(n));
            if (!got.equals(due.get(n))) {
                wrong++;
                System.out.println(title + ", call " + (n + 1) + ": " + tell(n) + " answered " + got + ", due is " + due.get(n));
            }
            if (isRefusal(n)) {
                checkUnchanged(n);
            }
        }
    }

    private String tell(int n) {
        StringBuilder text = new StringBuilder(names.get(n));
        for (long arg : args.get(n)) {
            text.append(' ').append(arg);
        }
        return text.toString();
    }

    private boolean isRefusal(int n) {
        String answer = due.get(n);
        boolean isCode = answer.equals("-1") || answer.equals("-3") || answer.equals("-4");
        return answer.startsWith("throws.") || answer.equals("false")
                || isCode && Calls.answersNumber(names.get(n)) && !names.get(n).equals("span") && !names.get(n).equals("of");
    }

    private void checkUnchanged(int n) {
        refusals++;
        int callsMore = MOST_CALLS - n - 1;
        List<String> without = Asking.all(this, n, callsMore);
        List<String> with = Asking.all(this, n + 1, callsMore);
        for (int i = 0; i < without.size() && i < with.size(); i++) {
            if (!with.get(i).equals(without.get(i))) {
                wrong++;
                System.out.println(title + ", call " + (n + 1) + ": " + tell(n) + " changed the state: before it "
                        + without.get(i) + ", after it " + with.get(i));
                return;
            }
        }
    }

    /** A new object after the first n calls. */
    KeyStates after(int n) {
        KeyStates x = new KeyStates();
        for (int i = 0; i < n; i++) {
            Calls.answer(x, names.get(i), args.get(i));
        }
        return x;
    }

    int count(String name) {
        return Collections.frequency(names, name);
    }

    /** What stands at a place in the arguments of all calls of a method. */
    TreeSet<Long> arguments(String name, int place) {
        TreeSet<Long> found = new TreeSet<>();
        for (int i = 0; i < names.size(); i++) {
            if (names.get(i).equals(name)) {
                found.add(args.get(i)[place]);
            }
        }
        return found;
    }
}
