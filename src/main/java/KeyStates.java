import java.util.NoSuchElementException;

/** What an operator keeps for each key; ../shared/DOC.md says what each call promises. */
public final class KeyStates {
    public static final int BAD = -1, NO = -3, FULL = -4;

    private static final int MOST_STATES = 8;
    private static final int MOST_ENTRIES = 150;
    private static final int MOST_NUMBERS = 10;
    private static final int MOST_SNAPSHOTS = 6;
    private static final int PAGES = 16;

    private static final int VALUE = 0, LIST = 1, MAP = 2, FOLD = 3;
    private static final int KINDS = 4, TYPES = 3;
    private static final int SMALL_TYPE = 1, NOT_BELOW_ZERO_TYPE = 2;
    private static final int SMALL = 1000;
    private static final int LEAST_TYPE = 1, GREATEST_TYPE = 2;

    private static final int NOW = -1;
    private static final int NONE = -1;

    private final int[] names = new int[MOST_STATES];
    private final Moment now = new Moment();
    private final Moment[] snapshots = new Moment[MOST_SNAPSHOTS];
    private int taken = 0;
    private int copied = 0;
    private boolean hasKey = false;
    private long keyAtHand = 0;
    private int spanAtHand = 0;

    public KeyStates() {
        // Made once and used again, so that no later call needs room.
        for (int i = 0; i < MOST_SNAPSHOTS; i++) {
            snapshots[i] = new Moment();
        }
    }

    public int state(int name, int kind, int type) {
        if (!isKindAndType(kind, type)) {
            return BAD;
        }
        for (int s = 0; s < now.stateCount; s++) {
            if (names[s] == name) {
                return now.kinds[s] == kind && now.types[s] == type ? s : NO;
            }
        }
        if (now.stateCount >= MOST_STATES) {
            return FULL;
        }
        int state = now.stateCount;
        names[state] = name;
        now.kinds[state] = kind;
        now.types[state] = type;
        now.stateCount = state + 1;
        return state;
    }

    public void key(long key) {
        hasKey = true;
        keyAtHand = key;
    }

    public boolean leave() {
        boolean had = hasKey;
        hasKey = false;
        return had;
    }

    public int span(int span) {
        int before = spanAtHand;
        spanAtHand = span;
        return before;
    }

    // ---- the entry at hand

    public int put(int state, long v)
            throws IndexOutOfBoundsException, IllegalArgumentException, IllegalStateException {
        requireKind(state, VALUE, VALUE);
        requireFit(state, v);
        requireKey();
        int found = findAtHand(state);
        boolean isNew = found == NONE;
        if (isNew && !hasRoom(found)) {
            return FULL;
        }
        int at = openAtHand(state);
        now.rows.setOnlyNumber(at, v, 1);
        return isNew ? 1 : 0;
    }

    public long value(int state)
            throws IndexOutOfBoundsException, IllegalArgumentException, IllegalStateException,
            NoSuchElementException {
        requireKind(state, VALUE, FOLD);
        requireKey();
        int at = findAtHand(state);
        if (at == NONE) {
            throw new NoSuchElementException("there is no entry");
        }
        return now.rows.number(at, 0);
    }

    public int add(int state, long v)
            throws IndexOutOfBoundsException, IllegalArgumentException, IllegalStateException {
        requireKind(state, LIST, LIST);
        requireFit(state, v);
        requireKey();
        if (!hasRoom(findAtHand(state))) {
            return FULL;
        }
        return now.rows.append(openAtHand(state), v);
    }

    public long item(int state, int i)
            throws IndexOutOfBoundsException, IllegalArgumentException, IllegalStateException {
        requireKind(state, LIST, MAP);
        requireKey();
        int at = findAtHand(state);
        requireNumber(at, i);
        return now.rows.number(at, i);
    }

    public int set(int state, long member, long v)
            throws IndexOutOfBoundsException, IllegalArgumentException, IllegalStateException {
        requireKind(state, MAP, MAP);
        requireFit(state, v);
        requireKey();
        int found = findAtHand(state);
        boolean isNew = found == NONE || now.rows.findMember(found, member) == NONE;
        if (isNew && !hasRoom(found)) {
            return FULL;
        }
        int at = openAtHand(state);
        if (isNew) {
            now.rows.insertMember(at, member, v);
            return 1;
        }
        now.rows.setNumber(at, now.rows.findMember(at, member), v);
        return 0;
    }

    public long get(int state, long member)
            throws IndexOutOfBoundsException, IllegalArgumentException, IllegalStateException,
            NoSuchElementException {
        requireKind(state, MAP, MAP);
        requireKey();
        int at = findAtHand(state);
        int i = at == NONE ? NONE : now.rows.findMember(at, member);
        if (i == NONE) {
            throw new NoSuchElementException("the member is not there");
        }
        return now.rows.number(at, i);
    }

    public long member(int state, int i)
            throws IndexOutOfBoundsException, IllegalArgumentException, IllegalStateException {
        requireKind(state, MAP, MAP);
        requireKey();
        int at = findAtHand(state);
        requireNumber(at, i);
        return now.rows.memberAt(at, i);
    }

    public boolean remove(int state, long member)
            throws IndexOutOfBoundsException, IllegalArgumentException, IllegalStateException {
        requireKind(state, MAP, MAP);
        requireKey();
        int at = findAtHand(state);
        int i = at == NONE ? NONE : now.rows.findMember(at, member);
        if (i == NONE) {
            return false;
        }
        if (now.rows.sizes[at] == 1) {
            deleteEntry(at);
        } else {
            beforeChange(now.rows.page(at));
            now.rows.deleteMember(at, i);
        }
        return true;
    }

    public int fold(int state, long v)
            throws IndexOutOfBoundsException, IllegalArgumentException, IllegalStateException {
        requireKind(state, FOLD, FOLD);
        requireKey();
        int found = findAtHand(state);
        boolean isNew = found == NONE;
        if (isNew && !hasRoom(found)) {
            return FULL;
        }
        int at = openAtHand(state);
        long folded = isNew ? v : foldTwo(now.types[state], now.rows.number(at, 0), v);
        now.rows.setOnlyNumber(at, folded, now.rows.sizes[at] + 1);
        return now.rows.sizes[at];
    }

    public int size(int state) throws IndexOutOfBoundsException, IllegalStateException {
        requireState(state);
        requireKey();
        int at = findAtHand(state);
        return at == NONE ? 0 : now.rows.sizes[at];
    }

    public boolean clear(int state) throws IndexOutOfBoundsException, IllegalStateException {
        requireState(state);
        requireKey();
        int at = findAtHand(state);
        if (at == NONE) {
            return false;
        }
        deleteEntry(at);
        return true;
    }

    // ---- all keys

    public int clearSpan() {
        int cleared = 0;
        // From the last one down, since those behind a deleted one move up.
        for (int at = now.rows.count - 1; at >= 0; at--) {
            if (now.rows.spans[at] == spanAtHand) {
                deleteEntry(at);
                cleared++;
            }
        }
        return cleared;
    }

    public int keys(int state) throws IndexOutOfBoundsException {
        requireState(state);
        return now.rows.countKeys(state, spanAtHand);
    }

    public long keyAt(int state, int i) throws IndexOutOfBoundsException {
        requireState(state);
        if (i < 0 || i >= now.rows.countKeys(state, spanAtHand)) {
            throw new IndexOutOfBoundsException("no such key");
        }
        return now.rows.keys[now.rows.place(state, Long.MIN_VALUE, spanAtHand) + i];
    }

    // ---- snapshots

    public int snapshot() {
        for (int i = 0; i < MOST_SNAPSHOTS; i++) {
            Moment free = snapshots[i];
            if (free.number == NONE) {
                free.copyFrom(now);
                free.stateCount = now.stateCount;
                free.number = taken;
                taken++;
                return free.number;
            }
        }
        return FULL;
    }

    public int drop(int snapshot) throws IndexOutOfBoundsException {
        requireSnapshot(snapshot).number = NONE;
        return countShared();
    }

    public long ask(int snapshot, int state, long key, int span, int i)
            throws IndexOutOfBoundsException, NoSuchElementException {
        requireState(state);
        Moment moment = snapshot == NOW ? now : requireSnapshot(snapshot);
        int at = moment.rows.find(state, key, span);
        if (at == NONE || i < 0 || i >= moment.countNumbers(at)) {
            throw new NoSuchElementException("there is no such entry or number");
        }
        return moment.rows.number(at, i);
    }

    public int entries(int snapshot, int state) throws IndexOutOfBoundsException {
        requireState(state);
        Moment moment = snapshot == NOW ? now : requireSnapshot(snapshot);
        return moment.rows.countEntries(state);
    }

    public int restore(int snapshot) throws IndexOutOfBoundsException {
        now.copyFrom(requireSnapshot(snapshot));
        return now.rows.count;
    }

    // ---- moving

    public int move(int state, int kind, int type) throws IndexOutOfBoundsException {
        requireState(state);
        if (!isKindAndType(kind, type)) {
            return BAD;
        }
        if (!leadsTo(now.kinds[state], kind) || !allFit(state, kind, type)) {
            return NO;
        }
        int moved = 0;
        for (int at = 0; at < now.rows.count; at++) {
            if (now.rows.states[at] == state) {
                moveEntry(at, kind, type);
                moved++;
            }
        }
        now.kinds[state] = kind;
        now.types[state] = type;
        return moved;
    }

    public int of(int state, int what) throws IndexOutOfBoundsException {
        requireState(state);
        switch (what) {
            case 0:
                return names[state];
            case 1:
                return now.kinds[state];
            case 2:
                return now.types[state];
            default:
                throw new IndexOutOfBoundsException("nothing such is told of a state");
        }
    }

    public int told(int what) {
        switch (what) {
            case 0:
                return now.stateCount;
            case 1:
                return now.rows.count;
            case 2:
                return countSnapshots();
            case 3:
                return countShared();
            case 4:
                return copied;
            case 5:
                return now.rows.countPages();
            case 6:
                return now.countAllNumbers();
            default:
                return BAD;
        }
    }

    // ---- what the calls require

    private void requireState(int state) {
        if (state < 0 || state >= now.stateCount) {
            throw new IndexOutOfBoundsException("no such state");
        }
    }

    private void requireKind(int state, int kind, int orKind) {
        requireState(state);
        if (now.kinds[state] != kind && now.kinds[state] != orKind) {
            throw new IllegalArgumentException("the state has another kind");
        }
    }

    private void requireFit(int state, long v) {
        if (!fits(now.kinds[state], now.types[state], v)) {
            throw new IllegalArgumentException("the number does not fit");
        }
    }

    private void requireKey() {
        if (!hasKey) {
            throw new IllegalStateException("no key is at hand");
        }
    }

    private void requireNumber(int at, int i) {
        if (at == NONE || i < 0 || i >= now.rows.sizes[at]) {
            throw new IndexOutOfBoundsException("no such number");
        }
    }

    private Moment requireSnapshot(int snapshot) {
        for (int i = 0; i < MOST_SNAPSHOTS; i++) {
            // A free row bears a number below 0, which must not be found.
            if (snapshot >= 0 && snapshots[i].number == snapshot) {
                return snapshots[i];
            }
        }
        throw new IndexOutOfBoundsException("no such snapshot");
    }

    // ---- kinds and types

    private static boolean isKindAndType(int kind, int type) {
        return kind >= 0 && kind < KINDS && type >= 0 && type < TYPES;
    }

    private static boolean fits(int kind, int type, long v) {
        if (kind == FOLD) {
            return true;
        }
        switch (type) {
            case SMALL_TYPE:
                return v >= -SMALL && v <= SMALL;
            case NOT_BELOW_ZERO_TYPE:
                return v >= 0;
            default:
                return true;
        }
    }

    private static long foldTwo(int type, long a, long b) {
        switch (type) {
            case LEAST_TYPE:
                return Math.min(a, b);
            case GREATEST_TYPE:
                return Math.max(a, b);
            default:
                return a + b;
        }
    }

    private static boolean leadsTo(int from, int to) {
        switch (from) {
            case VALUE:
                return to != MAP;
            case LIST:
                return to == LIST || to == FOLD;
            case MAP:
                return to == MAP || to == LIST;
            default:
                return to == VALUE;
        }
    }

    private boolean allFit(int state, int kind, int type) {
        for (int at = 0; at < now.rows.count; at++) {
            if (now.rows.states[at] == state && !entryFits(at, kind, type)) {
                return false;
            }
        }
        return true;
    }

    private boolean entryFits(int at, int kind, int type) {
        int numbers = now.countNumbers(at);
        for (int i = 0; i < numbers; i++) {
            if (!fits(kind, type, now.rows.number(at, i))) {
                return false;
            }
        }
        return true;
    }

    private void moveEntry(int at, int kind, int type) {
        // Also content that stays as it is is given anew, and that counts as a change.
        beforeChange(now.rows.page(at));
        int from = now.kinds[now.rows.states[at]];
        if (from == LIST && kind == FOLD) {
            now.rows.setOnlyNumber(at, foldRow(at, type), now.rows.sizes[at]);
        } else if (from == FOLD) {
            now.rows.setOnlyNumber(at, now.rows.number(at, 0), 1);
        }
        // A map's numbers stand by rising members already, as a list wants them.
    }

    private long foldRow(int at, int type) {
        long folded = now.rows.number(at, 0);
        for (int i = 1; i < now.rows.sizes[at]; i++) {
            folded = foldTwo(type, folded, now.rows.number(at, i));
        }
        return folded;
    }

    // ---- entries of now

    private int findAtHand(int state) {
        return now.rows.find(state, keyAtHand, spanAtHand);
    }

    /** Whether the entry that was found, or a new one if none was, can take one number more. */
    private boolean hasRoom(int found) {
        return found == NONE ? !now.rows.isFull() : now.rows.sizes[found] < MOST_NUMBERS;
    }

    /** The entry at hand, about to be changed; a new one, without a number yet, if there was none. */
    private int openAtHand(int state) {
        beforeChange(pageOf(state, keyAtHand, spanAtHand));
        int at = findAtHand(state);
        return at == NONE ? now.rows.insert(state, keyAtHand, spanAtHand) : at;
    }

    private void deleteEntry(int at) {
        beforeChange(now.rows.page(at));
        now.rows.delete(at);
    }

    // ---- pages

    private static int pageOf(int state, long key, int span) {
        int k = (int) (key ^ (key >>> 32));
        int h = (k * 31 + span) * 31 + state;
        return h & (PAGES - 1);
    }

    private boolean isShared(int page) {
        for (int i = 0; i < MOST_SNAPSHOTS; i++) {
            if (snapshots[i].number != NONE && snapshots[i].stamps[page] == now.stamps[page]) {
                return true;
            }
        }
        return false;
    }

    private void beforeChange(int page) {
        if (isShared(page)) {
            copied++;
            now.stamps[page] = copied;
        }
    }

    private int countShared() {
        int shared = 0;
        for (int page = 0; page < PAGES; page++) {
            if (isShared(page)) {
                shared++;
            }
        }
        return shared;
    }

    private int countSnapshots() {
        int there = 0;
        for (int i = 0; i < MOST_SNAPSHOTS; i++) {
            if (snapshots[i].number != NONE) {
                there++;
            }
        }
        return there;
    }

    /** The states' kinds and types and all entries at one moment: now, or when a snapshot was taken. */
    private static final class Moment {
        /** The snapshot's number; NONE for now, and while no snapshot stands here. */
        int number = NONE;
        int stateCount = 0;
        final int[] kinds = new int[MOST_STATES];
        final int[] types = new int[MOST_STATES];
        /**
         * A page's stamp is the count of copies when it was copied last, so two moments have
         * the same stamp only while they share the page, also after a restore.
         */
        final int[] stamps = new int[PAGES];
        final Rows rows = new Rows();

        /** Leaves the states that the other moment has not: those told later stay when it is restored. */
        void copyFrom(Moment other) {
            System.arraycopy(other.kinds, 0, kinds, 0, other.stateCount);
            System.arraycopy(other.types, 0, types, 0, other.stateCount);
            System.arraycopy(other.stamps, 0, stamps, 0, PAGES);
            rows.copyFrom(other.rows);
        }

        /** A fold's size is how many were folded, but it has one number. */
        int countNumbers(int at) {
            return kinds[rows.states[at]] == FOLD ? 1 : rows.sizes[at];
        }

        int countAllNumbers() {
            int all = 0;
            for (int at = 0; at < rows.count; at++) {
                all += countNumbers(at);
            }
            return all;
        }
    }

    /** Entries by rising state, span and key, so that the keys of a state and span stand in a row. */
    private static final class Rows {
        int count = 0;
        final int[] states = new int[MOST_ENTRIES];
        final int[] spans = new int[MOST_ENTRIES];
        final long[] keys = new long[MOST_ENTRIES];
        /** How many numbers an entry has; for a fold how many were folded. */
        final int[] sizes = new int[MOST_ENTRIES];
        final long[] numbers = new long[MOST_ENTRIES * MOST_NUMBERS];
        /** Of maps alone, rising, each beside its number. */
        final long[] members = new long[MOST_ENTRIES * MOST_NUMBERS];

        void copyFrom(Rows other) {
            count = other.count;
            System.arraycopy(other.states, 0, states, 0, count);
            System.arraycopy(other.spans, 0, spans, 0, count);
            System.arraycopy(other.keys, 0, keys, 0, count);
            System.arraycopy(other.sizes, 0, sizes, 0, count);
            System.arraycopy(other.numbers, 0, numbers, 0, count * MOST_NUMBERS);
            System.arraycopy(other.members, 0, members, 0, count * MOST_NUMBERS);
        }

        boolean isFull() {
            return count >= MOST_ENTRIES;
        }

        int page(int at) {
            return pageOf(states[at], keys[at], spans[at]);
        }

        // -- finding and counting entries

        int find(int state, long key, int span) {
            int at = place(state, key, span);
            return at < count && isOf(at, state, span) && keys[at] == key ? at : NONE;
        }

        /** Where such an entry stands or would stand. */
        int place(int state, long key, int span) {
            int at = 0;
            while (at < count && isBefore(at, state, key, span)) {
                at++;
            }
            return at;
        }

        boolean isBefore(int at, int state, long key, int span) {
            if (states[at] != state) {
                return states[at] < state;
            }
            if (spans[at] != span) {
                return spans[at] < span;
            }
            return keys[at] < key;
        }

        boolean isOf(int at, int state, int span) {
            return states[at] == state && spans[at] == span;
        }

        int countKeys(int state, int span) {
            int found = 0;
            for (int at = 0; at < count; at++) {
                if (isOf(at, state, span)) {
                    found++;
                }
            }
            return found;
        }

        int countEntries(int state) {
            int found = 0;
            for (int at = 0; at < count; at++) {
                if (states[at] == state) {
                    found++;
                }
            }
            return found;
        }

        int countPages() {
            int seen = 0;
            for (int at = 0; at < count; at++) {
                seen |= 1 << page(at);
            }
            return Integer.bitCount(seen);
        }

        // -- entries that come and go

        /** Only while it is not full. */
        int insert(int state, long key, int span) {
            int at = place(state, key, span);
            shift(at, at + 1, count - at);
            count++;
            states[at] = state;
            spans[at] = span;
            keys[at] = key;
            sizes[at] = 0;
            return at;
        }

        void delete(int at) {
            shift(at + 1, at, count - at - 1);
            count--;
        }

        void shift(int from, int to, int entries) {
            System.arraycopy(states, from, states, to, entries);
            System.arraycopy(spans, from, spans, to, entries);
            System.arraycopy(keys, from, keys, to, entries);
            System.arraycopy(sizes, from, sizes, to, entries);
            shiftNumbers(from * MOST_NUMBERS, to * MOST_NUMBERS, entries * MOST_NUMBERS);
        }

        void shiftNumbers(int from, int to, int length) {
            System.arraycopy(numbers, from, numbers, to, length);
            System.arraycopy(members, from, members, to, length);
        }

        // -- an entry's numbers and members

        long number(int at, int i) {
            return numbers[at * MOST_NUMBERS + i];
        }

        void setNumber(int at, int i, long v) {
            numbers[at * MOST_NUMBERS + i] = v;
        }

        void setOnlyNumber(int at, long v, int size) {
            setNumber(at, 0, v);
            sizes[at] = size;
        }

        /** Only while the entry has room. */
        int append(int at, long v) {
            setNumber(at, sizes[at], v);
            sizes[at]++;
            return sizes[at];
        }

        long memberAt(int at, int i) {
            return members[at * MOST_NUMBERS + i];
        }

        int findMember(int at, long member) {
            int i = memberPlace(at, member);
            return i < sizes[at] && memberAt(at, i) == member ? i : NONE;
        }

        int memberPlace(int at, long member) {
            int i = 0;
            while (i < sizes[at] && memberAt(at, i) < member) {
                i++;
            }
            return i;
        }

        /** Only while the entry has room. */
        void insertMember(int at, long member, long v) {
            int i = memberPlace(at, member);
            int from = at * MOST_NUMBERS + i;
            shiftNumbers(from, from + 1, sizes[at] - i);
            numbers[from] = v;
            members[from] = member;
            sizes[at]++;
        }

        void deleteMember(int at, int i) {
            int to = at * MOST_NUMBERS + i;
            shiftNumbers(to + 1, to, sizes[at] - i - 1);
            sizes[at]--;
        }
    }
}
