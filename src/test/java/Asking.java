import java.util.ArrayList;
import java.util.Arrays;
import java.util.List;
import java.util.TreeSet;

/**
 * All that can be asked after the first calls of a run: what is at hand, all entries of now and of the snapshots, the
 * members, which pages are shared with which snapshot, the next snapshot's number. It is asked on as many new objects as
 * the 512 calls of an object need, each after the same first calls.
 */
final class Asking {
    private static final int MOST_NUMBERS = 10;

    private final Script run;
    private final int first;
    private final int most;
    private final List<String> answers = new ArrayList<>();
    private KeyStates x;
    private int left = 0;

    private Asking(Script run, int first, int most) {
        this.run = run;
        this.first = first;
        this.most = most;
    }

    /** After the first calls, with at most the given number of calls more on one object. */
    static List<String> all(Script run, int first, int most) {
        Asking asking = new Asking(run, first, most);
        asking.askOfNow();
        asking.askWhatIsAtHand();
        TreeSet<Long> spans = run.arguments("span", 0);
        spans.add(0L);
        int snapshots = run.count("snapshot");
        for (int snapshot = -1; snapshot <= snapshots; snapshot++) {
            asking.askEntries(snapshot, run.arguments("key", 0), spans);
        }
        asking.dropAll(0, 1, snapshots);
        asking.dropAll(snapshots - 1, -1, snapshots);
        asking.clearSpans(spans);
        return asking.answers;
    }

    /** A new object, unless the one there is can take so many calls more; false: none can. */
    private boolean makeRoom(int calls) {
        if (calls > most) {
            return false;
        }
        if (left < calls) {
            x = run.after(first);
            left = most;
        }
        return true;
    }

    private boolean makeNew(int calls) {
        left = 0;
        return makeRoom(calls);
    }

    private String ask(String name, long... args) {
        left--;
        String got = Calls.answer(x, name, args);
        answers.add(name + " " + Arrays.toString(args) + " answers " + got);
        return got;
    }

    private void askOfNow() {
        for (int what = 0; what <= 6; what++) {
            if (makeRoom(1)) {
                ask("told", what);
            }
        }
        for (int state = 0; state < 8; state++) {
            if (makeRoom(4) && !ask("of", state, 0).startsWith("throws")) {
                ask("of", state, 1);
                ask("of", state, 2);
                ask("entries", -1, state);
            }
        }
    }

    private void askWhatIsAtHand() {
        if (!makeNew(42)) {
            return;
        }
        for (int state = 0; state < 8; state++) {
            ask("keys", state);
            ask("keyAt", state, 0);
            ask("size", state);
            ask("value", state);
            ask("item", state, 0);
        }
        ask("leave");
        ask("span", 0);
    }

    private void askEntries(int snapshot, TreeSet<Long> keys, TreeSet<Long> spans) {
        for (int state = 0; state < 8; state++) {
            if (!makeRoom(1)) {
                return;
            }
            String entries = ask("entries", snapshot, state);
            if (entries.startsWith("throws") || entries.equals("0")) {
                continue;
            }
            for (long span : spans) {
                for (long key : keys) {
                    askNumbers(snapshot, state, key, span);
                }
            }
        }
    }

    private void askNumbers(int snapshot, int state, long key, long span) {
        String got = "";
        for (int i = 0; i <= MOST_NUMBERS && !got.startsWith("throws"); i++) {
            if (!makeRoom(1)) {
                return;
            }
            got = ask("ask", snapshot, state, key, span, i);
        }
        boolean isNow = snapshot < 0 && makeRoom(MOST_NUMBERS + 4);
        if (isNow) {
            askMembers(state, key, span);
        }
    }

    private void askMembers(int state, long key, long span) {
        ask("key", key);
        ask("span", span);
        ask("size", state);
        String got = "";
        for (int i = 0; i <= MOST_NUMBERS && !got.startsWith("throws"); i++) {
            got = ask("member", state, i);
        }
    }

    private void dropAll(int from, int step, int snapshots) {
        if (!makeNew(snapshots + 1)) {
            return;
        }
        for (int i = from; i >= 0 && i < snapshots; i += step) {
            ask("drop", i);
        }
        ask("snapshot");
    }

    private void clearSpans(TreeSet<Long> spans) {
        if (!makeNew(4 * spans.size())) {
            return;
        }
        for (long span : spans) {
            ask("span", span);
            ask("clearSpan");
            ask("told", 3);
            ask("told", 4);
        }
    }
}
