import java.util.ArrayList;
import java.util.Arrays;
import java.util.Collections;
import java.util.List;
import java.util.TreeSet;

/**
 * Runs of calls written as text, one call a line: "put 0 3 = 1", "key 7", "value 0 = throws.IllegalStateException".
 * What follows a # is left out. After every call that is refused or throws, the run is made again on new objects, with and
 * without that call, and all that can be asked must be the same.
 */
final class Script {
    private static final int MOST_CALLS = 512;
    private static int wrong = 0;
    private static int calls = 0;

    private final String title;
    private final List<String> names = new ArrayList<>();
    private final List<long[]> args = new ArrayList<>();
    private final List<String> due = new ArrayList<>();

    private Script(String title) {
        this.title = title;
    }

    static void run(String title, String text) {
        Script script = new Script(title);
        for (String line : text.split("\n")) {
            script.read(line.replaceFirst("#.*", "").trim());
        }
        script.runAll();
    }

    /** The line n times, with 0 .. n - 1 for $. */
    static String many(int n, String lines) {
        StringBuilder all = new StringBuilder();
        for (int i = 0; i < n; i++) {
            all.append(lines.replace("$+1", String.valueOf(i + 1)).replace("$", String.valueOf(i))).append('\n');
        }
        return all.toString();
    }

    static void finish() {
        System.out.println(wrong == 0 ? calls + " answers are as due" : wrong + " answers are not as due");
        if (wrong != 0 || calls == 0) {
            System.exit(1);
        }
    }

    private void read(String line) {
        if (line.isEmpty()) {
            return;
        }
        String[] halves = line.split("=");
        String[] words = halves[0].trim().split(" +");
        long[] numbers = new long[words.length - 1];
        for (int i = 0; i < numbers.length; i++) {
            numbers[i] = number(words[i + 1]);
        }
        names.add(words[0]);
        args.add(numbers);
        due.add(halves.length < 2 ? "nothing" : dueAnswer(halves[1].trim()));
    }

    private static long number(String word) {
        switch (word) {
            case "min":
                return Long.MIN_VALUE;
            case "max":
                return Long.MAX_VALUE;
            case "intmin":
                return Integer.MIN_VALUE;
            case "intmax":
                return Integer.MAX_VALUE;
            default:
                return Long.parseLong(word);
        }
    }

    private static String dueAnswer(String word) {
        switch (word) {
            case "BAD":
                return "-1";
            case "NO":
                return "-3";
            case "FULL":
                return "-4";
            case "index!":
                return "throws.IndexOutOfBoundsException";
            case "argument!":
                return "throws.IllegalArgumentException";
            case "state!":
                return "throws.IllegalStateException";
            case "none!":
                return "throws.NoSuchElementException";
            case "true":
            case "false":
                return word;
            default:
                return String.valueOf(number(word));
        }
    }

    private void runAll() {
        if (names.size() > MOST_CALLS) {
            throw new Error(title + ": " + names.size() + " calls");
        }
        KeyStates x = new KeyStates();
        for (int n = 0; n < names.size(); n++) {
            calls++;
            String got = Calls.answer(x, names.get(n), args.get(n));
            if (!got.equals(due.get(n))) {
                wrong++;
                System.out.println(title + ", call " + (n + 1) + ": " + tell(n) + " answered " + got + ", due is " + due.get(n));
            }
            if (isRefusal(n)) {
                checkUnchanged(n);
            }
        }
    }

    private String tell(int n) {
        StringBuilder text = new StringBuilder(names.get(n));
        for (long arg : args.get(n)) {
            text.append(' ').append(arg);
        }
        return text.toString();
    }

    private boolean isRefusal(int n) {
        String answer = due.get(n);
        boolean isCode = answer.equals("-1") || answer.equals("-3") || answer.equals("-4");
        return answer.startsWith("throws.")
                || isCode && Calls.answersNumber(names.get(n)) && !names.get(n).equals("span") && !names.get(n).equals("of");
    }

    private void checkUnchanged(int n) {
        List<String> without = allThatCanBeAsked(n, MOST_CALLS - n - 1);
        List<String> with = allThatCanBeAsked(n + 1, MOST_CALLS - n - 1);
        for (int i = 0; i < without.size() && i < with.size(); i++) {
            if (!with.get(i).equals(without.get(i))) {
                wrong++;
                System.out.println(title + ", call " + (n + 1) + ": " + tell(n) + " changed the state: before it "
                        + without.get(i) + ", after it " + with.get(i));
                return;
            }
        }
    }

    /** After the first n calls on a new object, with at most the given number of calls more. */
    private List<String> allThatCanBeAsked(int n, int most) {
        KeyStates x = new KeyStates();
        for (int i = 0; i < n; i++) {
            Calls.answer(x, names.get(i), args.get(i));
        }
        TreeSet<Long> keys = firstArguments("key");
        TreeSet<Long> spans = firstArguments("span");
        spans.add(0L);
        Asker asker = new Asker(x, most);
        askOfNow(asker);
        for (int snapshot = -1; snapshot <= Collections.frequency(names, "snapshot"); snapshot++) {
            askOf(asker, snapshot, keys, spans);
        }
        return asker.answers;
    }

    private TreeSet<Long> firstArguments(String name) {
        TreeSet<Long> found = new TreeSet<>();
        for (int i = 0; i < names.size(); i++) {
            if (names.get(i).equals(name)) {
                found.add(args.get(i)[0]);
            }
        }
        return found;
    }

    private static void askOfNow(Asker asker) {
        for (int what = 0; what <= 6; what++) {
            asker.ask("told", what);
        }
        for (int state = 0; state < 8; state++) {
            asker.ask("size", state);
            asker.ask("keys", state);
            for (int what = 0; what < 3; what++) {
                asker.ask("of", state, what);
            }
        }
        asker.ask("leave");
        asker.ask("span", 0);
    }

    private static void askOf(Asker asker, int snapshot, TreeSet<Long> keys, TreeSet<Long> spans) {
        for (int state = 0; state < 8; state++) {
            String entries = asker.ask("entries", snapshot, state);
            if (entries.startsWith("throws") || entries.equals("0")) {
                continue;
            }
            for (long span : spans) {
                for (long key : keys) {
                    String got = "";
                    for (int i = 0; i <= 10 && !got.startsWith("throws"); i++) {
                        got = asker.ask("ask", snapshot, state, key, span, i);
                    }
                }
            }
        }
    }

    private static final class Asker {
        final KeyStates x;
        final List<String> answers = new ArrayList<>();
        int left;

        Asker(KeyStates x, int most) {
            this.x = x;
            this.left = most;
        }

        String ask(String name, long... args) {
            if (left <= 0) {
                return "throws nothing, for no call is left";
            }
            left--;
            String got = Calls.answer(x, name, args);
            answers.add(name + " " + Arrays.toString(args) + " answers " + got);
            return got;
        }
    }
}
