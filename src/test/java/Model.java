import java.util.ArrayList;
import java.util.HashMap;
import java.util.List;
import java.util.Map;
import java.util.NoSuchElementException;
import java.util.TreeMap;
import java.util.TreeSet;

/**
 * The document written a second time, over the Java library and with pages that are objects: the pages of now and of
 * the snapshots are shared as long as they are the same object.
 */
public final class Model {
    private static final int BAD = -1, NO = -3, FULL = -4;

    private record Id(int state, long key, int span) {
    }

    /** A value has one number, a fold one number and a count; a map has as many members as numbers. */
    private static final class Content {
        TreeMap<Long, Long> map = new TreeMap<>();
        List<Long> numbers = new ArrayList<>();
        int folded = 0;

        Content copy() {
            Content other = new Content();
            other.map.putAll(map);
            other.numbers.addAll(numbers);
            other.folded = folded;
            return other;
        }

        List<Long> row() {
            return map.isEmpty() ? numbers : new ArrayList<>(map.values());
        }
    }

    private static final class Page {
        final Map<Id, Content> entries = new HashMap<>();

        Page copy() {
            Page other = new Page();
            entries.forEach((id, content) -> other.entries.put(id, content.copy()));
            return other;
        }
    }

    private record Taken(Page[] pages, List<int[]> kindsAndTypes) {
    }

    private final List<Integer> names = new ArrayList<>();
    private final List<int[]> states = new ArrayList<>();
    private Page[] pages = new Page[16];
    private final TreeMap<Integer, Taken> snapshots = new TreeMap<>();
    private int taken = 0;
    private int copies = 0;
    private Long atHand = null;
    private int spanAtHand = 0;

    Model() {
        for (int i = 0; i < 16; i++) {
            pages[i] = new Page();
        }
    }

    public int state(int name, int kind, int type) {
        if (kind < 0 || kind > 3 || type < 0 || type > 2) {
            return BAD;
        }
        int at = names.indexOf(name);
        if (at >= 0) {
            return states.get(at)[0] == kind && states.get(at)[1] == type ? at : NO;
        }
        if (names.size() == 8) {
            return FULL;
        }
        names.add(name);
        states.add(new int[] {kind, type});
        return names.size() - 1;
    }

    public void key(long key) {
        atHand = key;
    }

    public boolean leave() {
        boolean was = atHand != null;
        atHand = null;
        return was;
    }

    public int span(int span) {
        int was = spanAtHand;
        spanAtHand = span;
        return was;
    }

    private static int pageOf(Id id) {
        long k = (id.key & 0xffffffffL) ^ (id.key >>> 32);
        long h = (k * 31 + id.span) * 31 + id.state;
        return (int) Math.floorMod(h, 16L);
    }

    private Content read(Id id) {
        return pages[pageOf(id)].entries.get(id);
    }

    private Content write(Id id) {
        return writable(id).entries.computeIfAbsent(id, any -> new Content());
    }

    private Page writable(Id id) {
        int page = pageOf(id);
        if (isShared(page)) {
            pages[page] = pages[page].copy();
            copies++;
        }
        return pages[page];
    }

    private boolean isShared(int page) {
        return snapshots.values().stream().anyMatch(s -> s.pages[page] == pages[page]);
    }

    private int shared() {
        int n = 0;
        for (int i = 0; i < 16; i++) {
            n += isShared(i) ? 1 : 0;
        }
        return n;
    }

    private static List<Id> ids(Page[] of) {
        List<Id> all = new ArrayList<>();
        for (Page page : of) {
            all.addAll(page.entries.keySet());
        }
        return all;
    }

    private void state(int state) {
        if (state < 0 || state >= names.size()) {
            throw new IndexOutOfBoundsException();
        }
    }

    private Id start(int state, String kinds, Long v) {
        state(state);
        int kind = states.get(state)[0];
        if (kinds.indexOf("VLMF".charAt(kind)) < 0 || v != null && !fits(kind, states.get(state)[1], v)) {
            throw new IllegalArgumentException();
        }
        if (atHand == null) {
            throw new IllegalStateException();
        }
        return new Id(state, atHand, spanAtHand);
    }

    private static boolean fits(int kind, int type, long v) {
        return kind == 3 || type == 0 || type == 1 && Math.abs((double) v) <= 1000 || type == 2 && v >= 0;
    }

    private boolean isFull(Id id) {
        return read(id) == null && ids(pages).size() == 150;
    }

    public int put(int state, long v) {
        Id id = start(state, "V", v);
        if (isFull(id)) {
            return FULL;
        }
        boolean was = read(id) != null;
        write(id).numbers = new ArrayList<>(List.of(v));
        return was ? 0 : 1;
    }

    public long value(int state) {
        Content content = read(start(state, "VF", null));
        if (content == null) {
            throw new NoSuchElementException();
        }
        return content.numbers.get(0);
    }

    public int add(int state, long v) {
        Id id = start(state, "L", v);
        if (isFull(id) || read(id) != null && read(id).numbers.size() == 10) {
            return FULL;
        }
        write(id).numbers.add(v);
        return read(id).numbers.size();
    }

    public long item(int state, int i) {
        Content content = read(start(state, "LM", null));
        if (content == null || i < 0 || i >= content.row().size()) {
            throw new IndexOutOfBoundsException();
        }
        return content.row().get(i);
    }

    public int set(int state, long member, long v) {
        Id id = start(state, "M", v);
        boolean was = read(id) != null && read(id).map.containsKey(member);
        if (isFull(id) || !was && read(id) != null && read(id).map.size() == 10) {
            return FULL;
        }
        write(id).map.put(member, v);
        return was ? 0 : 1;
    }

    public long get(int state, long member) {
        Content content = read(start(state, "M", null));
        if (content == null || !content.map.containsKey(member)) {
            throw new NoSuchElementException();
        }
        return content.map.get(member);
    }

    public long member(int state, int i) {
        Content content = read(start(state, "M", null));
        if (content == null || i < 0 || i >= content.map.size()) {
            throw new IndexOutOfBoundsException();
        }
        return new ArrayList<>(content.map.keySet()).get(i);
    }

    public boolean remove(int state, long member) {
        Id id = start(state, "M", null);
        if (read(id) == null || !read(id).map.containsKey(member)) {
            return false;
        }
        write(id).map.remove(member);
        if (read(id).map.isEmpty()) {
            writable(id).entries.remove(id);
        }
        return true;
    }

    public int fold(int state, long v) {
        Id id = start(state, "F", null);
        if (isFull(id)) {
            return FULL;
        }
        Content content = write(id);
        content.numbers.add(v);
        content.numbers = new ArrayList<>(List.of(folded(content.numbers, states.get(state)[1])));
        return ++content.folded;
    }

    private static long folded(List<Long> numbers, int type) {
        if (type == 0) {
            return numbers.stream().mapToLong(n -> n).sum();
        }
        TreeSet<Long> sorted = new TreeSet<>(numbers);
        return type == 1 ? sorted.first() : sorted.last();
    }

    public int size(int state) {
        Content content = read(start(state, "VLMF", null));
        return content == null ? 0 : states.get(state)[0] == 3 ? content.folded : content.row().size();
    }

    public boolean clear(int state) {
        Id id = start(state, "VLMF", null);
        boolean was = read(id) != null;
        if (was) {
            writable(id).entries.remove(id);
        }
        return was;
    }

    public int clearSpan() {
        int n = 0;
        for (Id id : ids(pages)) {
            if (id.span == spanAtHand) {
                writable(id).entries.remove(id);
                n++;
            }
        }
        return n;
    }

    private List<Long> sortedKeys(int state) {
        state(state);
        TreeSet<Long> found = new TreeSet<>();
        for (Id id : ids(pages)) {
            if (id.state == state && id.span == spanAtHand) {
                found.add(id.key);
            }
        }
        return new ArrayList<>(found);
    }

    public int keys(int state) {
        return sortedKeys(state).size();
    }

    public long keyAt(int state, int i) {
        List<Long> found = sortedKeys(state);
        if (i < 0 || i >= found.size()) {
            throw new IndexOutOfBoundsException();
        }
        return found.get(i);
    }

    public int snapshot() {
        if (snapshots.size() == 6) {
            return FULL;
        }
        List<int[]> kindsAndTypes = new ArrayList<>();
        states.forEach(s -> kindsAndTypes.add(s.clone()));
        snapshots.put(taken, new Taken(pages.clone(), kindsAndTypes));
        return taken++;
    }

    private Taken snapshot(int snapshot) {
        if (!snapshots.containsKey(snapshot)) {
            throw new IndexOutOfBoundsException();
        }
        return snapshots.get(snapshot);
    }

    public int drop(int snapshot) {
        snapshot(snapshot);
        snapshots.remove(snapshot);
        return shared();
    }

    public long ask(int snapshot, int state, long key, int span, int i) {
        state(state);
        Page[] of = snapshot == -1 ? pages : snapshot(snapshot).pages;
        Id id = new Id(state, key, span);
        Content content = of[pageOf(id)].entries.get(id);
        if (content == null || i < 0 || i >= content.row().size()) {
            throw new NoSuchElementException();
        }
        return content.row().get(i);
    }

    public int entries(int snapshot, int state) {
        state(state);
        Page[] of = snapshot == -1 ? pages : snapshot(snapshot).pages;
        return (int) ids(of).stream().filter(id -> id.state == state).count();
    }

    public int restore(int snapshot) {
        Taken then = snapshot(snapshot);
        pages = then.pages.clone();
        for (int s = 0; s < then.kindsAndTypes.size(); s++) {
            states.set(s, then.kindsAndTypes.get(s).clone());
        }
        return ids(pages).size();
    }

    public int move(int state, int kind, int type) {
        state(state);
        if (kind < 0 || kind > 3 || type < 0 || type > 2) {
            return BAD;
        }
        int from = states.get(state)[0];
        String way = "" + "VLMF".charAt(from) + "VLMF".charAt(kind);
        List<Id> ids = ids(pages);
        ids.removeIf(id -> id.state != state);
        boolean fit = ids.stream().allMatch(id -> read(id).row().stream().allMatch(n -> fits(kind, type, n)));
        if (!List.of("VL", "VF", "LF", "FV", "ML", "VV", "LL", "MM").contains(way) || !fit) {
            return NO;
        }
        for (Id id : ids) {
            Content content = write(id);
            switch (way) {
                case "VF", "LF" -> {
                    content.folded = content.numbers.size();
                    content.numbers = new ArrayList<>(List.of(folded(content.numbers, type)));
                }
                case "FV" -> content.folded = 0;
                case "ML" -> {
                    content.numbers = content.row();
                    content.map = new TreeMap<>();
                }
                default -> { }
            }
        }
        states.set(state, new int[] {kind, type});
        return ids.size();
    }

    public int of(int state, int what) {
        state(state);
        if (what < 0 || what > 2) {
            throw new IndexOutOfBoundsException();
        }
        return what == 0 ? names.get(state) : states.get(state)[what - 1];
    }

    public int told(int what) {
        return switch (what) {
            case 0 -> names.size();
            case 1 -> ids(pages).size();
            case 2 -> snapshots.size();
            case 3 -> shared();
            case 4 -> copies;
            case 5 -> (int) List.of(pages).stream().filter(page -> !page.entries.isEmpty()).count();
            case 6 -> ids(pages).stream().mapToInt(id -> read(id).row().size()).sum();
            default -> BAD;
        };
    }
}
