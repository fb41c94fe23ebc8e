import java.math.BigInteger;

/**
 * The boundary cases of the document's "Terms", a method for each sentence that names some: the last value that is taken,
 * the first that is refused, on both sides where there are two. Script looks after every refusal whether anything changed.
 */
public final class TermsTest {
    private static final int VALUE = 0, LIST = 1, MAP = 2, FOLD = 3;
    private static final String[] KIND_NAMES = {"VALUE", "LIST", "MAP", "FOLD"};
    /** How a number v comes into the entry of state 0 that is at hand, by the state's kind. */
    private static final String[] GIVE = {"put 0 v", "add 0 v", "set 0 5 v", "fold 0 v"};
    private static final long TWO_TO_32 = 1L << 32;
    private static final long[] NUMBERS = {
        Long.MIN_VALUE, Long.MIN_VALUE + 1, -TWO_TO_32 - 1, -TWO_TO_32, -TWO_TO_32 + 5, Integer.MIN_VALUE - 1L,
        Integer.MIN_VALUE, -1002, -1001, -1000, -999, -1, 0, 1, 999, 1000, 1001, 1002, Integer.MAX_VALUE,
        Integer.MAX_VALUE + 1L, TWO_TO_32 - 1, TWO_TO_32, TWO_TO_32 + 5, Long.MAX_VALUE - 1, Long.MAX_VALUE,
    };

    private static final String ALL_FULL = """
        put 0 1 = FULL
        add 1 1 = FULL
        set 2 1 1 = FULL
        fold 3 1 = FULL
        put 4 1 = FULL
        add 5 1 = FULL
        set 6 1 1 = FULL
        fold 7 1 = FULL
        """;

    private static final String NEIGHBOURS = "key 1\nsize 0 = 10\n"
            + Script.many(10, "item 0 $ = 11$\nmember 0 $ = 10$")
            + "key 3\nsize 0 = 10\n" + Script.many(10, "item 0 $ = 31$\nmember 0 $ = 30$");

    public static void main(String[] args) {
        statesAreNumberedAsTheyAreTold();
        eightStatesAtMost();
        kindsAre0To3AndTypes0To2();
        whatFits();
        aFoldFitsAlways();
        hundredAndFiftyEntriesAtATime();
        whatMakesRoomAmong150();
        oneToTenNumbersInARow();
        oneToTenMembersEachOnce();
        neighboursOfTen();
        sumOf64BitsGoingRound();
        leastAndGreatest();
        anEntryWithoutAnyNumberIsNone();
        noKeyAtFirst();
        spanAtFirst0();
        theEntryIsThatOfBoth();
        pagesOfEntries();
        pages0To15();
        sharedAsLongAsItIsThere();
        sharedTillTheyChangeHere();
        changesAlsoWhenGivenWhatItHas();
        copiedFirstAndNotSharedThen();
        restoringSharesAllPages();
        whichMovesAreNo();
        noWhenSomeNumberWouldNotFit();
        whatNeedNotFitWhenMoved();
        Script.finish();
    }

    // ---- states

    private static void statesAreNumberedAsTheyAreTold() {
        Script.run("STATES are numbered as they are told: names in any order", """
            state intmax 0 0 = 0
            of 0 0 = intmax
            of 1 0 = index!
            state intmin 0 0 = 1
            of 1 0 = intmin
            of 2 0 = index!
            of -1 0 = index!
            state 0 3 2 = 2
            state -1 3 2 = 3
            state intmax 0 0 = 0
            state intmin 0 0 = 1
            told 0 = 4
            """);
    }

    private static void eightStatesAtMost() {
        Script.run("8 at most: the eighth is taken, the ninth is not", """
            state 10 0 0 = 0
            state 11 1 0 = 1
            state 12 2 0 = 2
            state 13 3 0 = 3
            state 14 0 1 = 4
            state 15 1 1 = 5
            state 16 2 1 = 6
            told 0 = 7
            of 7 0 = index!
            state 17 3 1 = 7
            told 0 = 8
            of 7 0 = 17
            of 8 0 = index!
            state 18 0 0 = FULL
            state 18 3 2 = FULL
            state 9 0 0 = FULL
            snapshot = 0
            state intmax 0 0 = FULL
            state intmin 0 0 = FULL
            # those that are there are still told
            state 17 3 1 = 7
            state 10 0 0 = 0
            # going back takes no state away
            restore 0 = 0
            state 18 0 0 = FULL
            """);
        Script.run("8 at most: going back to when there was none leaves eight", """
            snapshot = 0
            """ + Script.many(8, "state $ 0 0 = $") + """
            restore 0 = 0
            told 0 = 8
            state 8 0 0 = FULL
            state 7 0 0 = 7
            """);
    }

    private static void kindsAre0To3AndTypes0To2() {
        int[] edges = {Integer.MIN_VALUE, -2, -1, 0, 1, 2, 3, 4, 5, 256, 65536, Integer.MAX_VALUE};
        for (int kind : edges) {
            for (int type : edges) {
                boolean isGood = kind >= 0 && kind <= 3 && type >= 0 && type <= 2;
                String with = " " + kind + " " + type + " = ";
                Script.run("KIND 0 .. 3, TYPE 0 .. 2", """
                    state 5 0 0 = 0
                    """
                    + "state 6" + with + (isGood ? "1" : "BAD")
                    + "\ntold 0 = " + (isGood ? 2 : 1)
                    + "\nmove 0" + with + (isGood ? kind == MAP ? "NO" : "0" : "BAD")
                    + "\nof 0 1 = " + (isGood && kind != MAP ? kind : 0)
                    + "\nof 0 2 = " + (isGood && kind != MAP ? type : 0));
            }
        }
    }

    // ---- what fits

    private static boolean fits(int kind, int type, long v) {
        return kind == FOLD || type == 0 || type == 1 && v >= -1000 && v <= 1000 || type == 2 && v >= 0;
    }

    private static String give(int kind, long v) {
        return GIVE[kind].replace("v", String.valueOf(v));
    }

    private static void whatFits() {
        for (int kind = VALUE; kind <= MAP; kind++) {
            for (int type = 0; type <= 2; type++) {
                for (long v : NUMBERS) {
                    checkFit(kind, type, v);
                }
            }
        }
    }

    private static void checkFit(int kind, int type, long v) {
        boolean isFit = fits(kind, type, v);
        String change = give(kind, v) + " = ";
        // An entry is there already: a member gets another number, a list one more.
        String again = isFit ? kind == LIST ? "2" : "0" : "argument!";
        Script.run("FITS, " + KIND_NAMES[kind] + " of TYPE " + type, "state 1 " + kind + " " + type + " = 0\n"
                + "key 1\nsnapshot = 0\n"
                + change + (isFit ? "1" : "argument!")
                + "\ntold 1 = " + (isFit ? 1 : 0)
                + "\nkey 2\n" + give(kind, 7) + " = 1\nsnapshot = 1\n"
                + change + again
                + "\nask -1 0 2 0 0 = " + (isFit && kind != LIST ? v : 7)
                + (isFit && kind == LIST ? "\nask -1 0 2 0 1 = " + v : "")
                + "\nleave = true\n" + change + (isFit ? "state!" : "argument!"));
    }

    private static void aFoldFitsAlways() {
        for (int type = 0; type <= 2; type++) {
            for (long v : NUMBERS) {
                Script.run("a FOLD fits always, TYPE " + type, "state 1 3 " + type + " = 0\nkey 1\n" + give(FOLD, v) + " = 1\n"
                        + "value 0 = " + v + "\n" + give(FOLD, v) + " = 2\nvalue 0 = " + (type == 0 ? v + v : v));
            }
        }
    }

    // ---- 150 entries

    private static void hundredAndFiftyEntriesAtATime() {
        Script.run("150 at most: the 150th is taken, the next is not, of each kind", Script.full() + """
            told 1 = 150
            set 6 18 18 = FULL
            fold 7 18 = FULL
            key 19
            """ + ALL_FULL + """
            key 0
            span 1 = 0
            """ + ALL_FULL + """
            told 1 = 150
            told 6 = 150
            """);
        Script.run("150 at most: with snapshots, no page is copied by what is refused", Script.full() + """
            snapshot = 0
            snapshot = 1
            key max
            """ + ALL_FULL + """
            told 4 = 0
            told 3 = 16
            """);
        Script.run("150 at most: those that are there still change", Script.full() + """
            put 0 5 = 0
            add 1 5 = 2
            set 2 18 5 = 0
            set 2 5 5 = 1
            fold 3 5 = 2
            key 0
            put 4 5 = 0
            add 5 5 = 2
            set 6 5 5 = 1
            fold 7 5 = 2
            told 1 = 150
            told 6 = 154
            move 0 1 0 = 19
            move 1 3 0 = 19
            move 2 1 0 = 19
            move 3 0 0 = 19
            told 1 = 150
            """);
        Script.run("150 at most: 149 are not yet full", Script.full() + """
            clear 5 = true
            told 1 = 149
            add 5 1 = 1
            told 1 = 150
            set 6 1 1 = FULL
            """);
    }

    private static void whatMakesRoomAmong150() {
        Script.run("at a time: clear makes room for one", Script.full() + """
            clear 0 = true
            fold 7 1 = 1
            set 6 1 1 = FULL
            put 0 1 = FULL
            """);
        Script.run("at a time: the last member's going makes room for one", Script.full() + """
            remove 2 18 = true
            told 1 = 149
            set 6 1 1 = 1
            fold 7 1 = FULL
            set 2 18 1 = FULL
            """);
        Script.run("at a time: a member that is not the last makes no room", Script.full() + """
            set 2 19 19 = 1
            remove 2 18 = true
            told 1 = 150
            set 6 1 1 = FULL
            """);
        Script.run("at a time: what snapshots have does not count, going back does", Script.full() + """
            snapshot = 0
            clearSpan = 150
            told 1 = 0
            key 99
            put 0 1 = 1
            snapshot = 1
            restore 0 = 150
            told 1 = 150
            put 0 1 = FULL
            restore 1 = 1
            key 98
            put 0 1 = 1
            told 1 = 2
            """);
        Script.run("at a time: states, spans and keys count together", """
            state 1 0 0 = 0
            key 1
            """ + Script.many(75, "span $+1 = $\nput 0 $ = 1") + """
            span 0 = 75
            """ + Script.many(75, "key -$\nput 0 $ = 1") + """
            told 1 = 150
            key 2
            put 0 1 = FULL
            span 76 = 0
            key 1
            put 0 1 = FULL
            span 75 = 76
            put 0 1 = 0
            """);
    }

    // ---- 1 to 10

    private static void oneToTenNumbersInARow() {
        Script.run("1 to 10 numbers in a row", """
            state 1 1 0 = 0
            state 2 1 0 = 1
            key 1
            size 0 = 0
            item 0 0 = index!
            add 0 100 = 1
            item 0 0 = 100
            item 0 1 = index!
            """ + Script.many(8, "add 0 $ = $+2") + """
            size 0 = 9
            add 0 200 = 10
            item 0 9 = 200
            item 0 10 = index!
            snapshot = 0
            add 0 300 = FULL
            add 0 min = FULL
            size 0 = 10
            told 4 = 0
            # another state's, key's or span's row is another
            add 1 1 = 1
            key 2
            add 0 1 = 1
            key 1
            span 1 = 0
            add 0 1 = 1
            span 0 = 1
            add 0 1 = FULL
            """);
        Script.run("1 to 10 numbers: a map of ten that becomes a list is full", """
            state 1 2 0 = 0
            key 1
            """ + Script.many(10, "set 0 $ $ = 1") + """
            move 0 1 0 = 1
            size 0 = 10
            add 0 1 = FULL
            item 0 9 = 9
            """);
        Script.run("1 to 10 numbers: a value that becomes a list takes nine more", """
            state 1 0 0 = 0
            key 1
            put 0 0 = 1
            move 0 1 0 = 1
            """ + Script.many(8, "add 0 $ = $+2") + """
            add 0 1 = 10
            add 0 1 = FULL
            """);
    }

    private static void oneToTenMembersEachOnce() {
        Script.run("1 to 10 MEMBERS, each once", """
            state 1 2 0 = 0
            key 1
            member 0 0 = index!
            set 0 max 100 = 1
            member 0 0 = max
            member 0 1 = index!
            set 0 max 100 = 0
            set 0 max 101 = 0
            size 0 = 1
            """ + Script.many(8, "set 0 $ $ = 1") + """
            size 0 = 9
            set 0 min 9 = 1
            size 0 = 10
            member 0 0 = min
            member 0 9 = max
            member 0 10 = index!
            item 0 9 = 101
            item 0 10 = index!
            snapshot = 0
            set 0 -1 5 = FULL
            set 0 8 5 = FULL
            set 0 9223372036854775806 5 = FULL
            told 4 = 0
            # each of the ten may get another number
            set 0 min 1 = 0
            set 0 max 2 = 0
            set 0 7 3 = 0
            size 0 = 10
            remove 0 0 = true
            set 0 -1 5 = 1
            set 0 0 5 = FULL
            key 2
            set 0 0 5 = 1
            """);
    }

    /** The entries before and behind one that grows to ten and goes again must keep theirs, also at the end of 150. */
    private static void neighboursOfTen() {
        String[] tenWays = {
            Script.many(10, "set 0 $ $ = 1"), Script.many(10, "set 0 -$ $ = 1"),
            Script.many(5, "set 0 $ $ = 1\nset 0 9$ $ = 1"),
        };
        for (String ten : tenWays) {
            Script.run("1 to 10 MEMBERS: the neighbours keep theirs", "state 1 2 0 = 0\nkey 1\n"
                    + Script.many(10, "set 0 10$ 11$ = 1") + "key 3\n" + Script.many(10, "set 0 30$ 31$ = 1")
                    + "key 2\n" + ten + "set 0 50 50 = FULL\n" + NEIGHBOURS
                    + "key 2\n" + ten.replace("set", "remove").replaceAll("(remove \\d -?\\d+) \\d+ = 1", "$1 = true") + NEIGHBOURS
                    + "told 1 = 2\n");
        }
        Script.run("1 to 10 numbers in a row: the neighbours keep theirs", "state 1 1 0 = 0\nkey 1\n"
                + Script.many(10, "add 0 11$ = $+1") + "key 3\n" + Script.many(10, "add 0 31$ = $+1")
                + "key 2\n" + Script.many(10, "add 0 $ = $+1") + "add 0 50 = FULL\n" + NEIGHBOURS.replaceAll("member[^\n]*\n", "")
                + "key 2\nclear 0 = true\n" + NEIGHBOURS.replaceAll("member[^\n]*\n", ""));
        Script.run("1 to 10 MEMBERS: of the first and the last of 150 entries", "state 1 2 0 = 0\n"
                + Script.many(150, "key $\nset 0 0 $ = 1") + Script.many(9, "set 0 $+1 $ = 1") + "set 0 10 1 = FULL\nkey 0\n"
                + Script.many(9, "set 0 $+1 $ = 1") + """
            set 0 10 1 = FULL
            item 0 9 = 8
            item 0 0 = 0
            key 1
            item 0 0 = 1
            member 0 0 = 0
            item 0 1 = index!
            key 148
            item 0 0 = 148
            item 0 1 = index!
            key 149
            item 0 0 = 149
            item 0 9 = 8
            remove 0 9 = true
            remove 0 0 = true
            item 0 0 = 0
            item 0 7 = 7
            item 0 8 = index!
            told 6 = 166
            """);
    }

    // ---- folding

    private static void sumOf64BitsGoingRound() {
        Script.run("their sum (64 bits, going round): upward", """
            state 1 3 0 = 0
            key 1
            fold 0 max = 1
            value 0 = max
            fold 0 1 = 2
            value 0 = min
            fold 0 -1 = 3
            value 0 = max
            fold 0 max = 4
            value 0 = -2
            fold 0 2 = 5
            value 0 = 0
            size 0 = 5
            """);
        Script.run("their sum (64 bits, going round): downward", """
            state 1 3 0 = 0
            key 1
            fold 0 min = 1
            fold 0 -1 = 2
            value 0 = max
            fold 0 min = 3
            value 0 = -1
            fold 0 min = 4
            value 0 = max
            ask -1 0 1 0 0 = max
            """);
        Script.run("their sum (64 bits, going round): a sum of 32 bits does not", """
            state 1 3 0 = 0
            key 1
            fold 0 intmax = 1
            fold 0 intmax = 2
            fold 0 2 = 3
            value 0 = 4294967296
            """);
        Script.run("their sum (64 bits, going round): a list's numbers", """
            state 1 1 0 = 0
            key 1
            add 0 max = 1
            add 0 1 = 2
            key 2
            add 0 min = 1
            add 0 min = 2
            add 0 5 = 3
            move 0 3 0 = 2
            value 0 = 5
            key 1
            value 0 = min
            """);
    }

    private static void leastAndGreatest() {
        Script.run("1 the least, 2 the greatest: at both ends, without going round", """
            state 1 3 1 = 0
            state 2 3 2 = 1
            key 1
            fold 0 max = 1
            value 0 = max
            fold 0 min = 2
            value 0 = min
            fold 0 max = 3
            value 0 = min
            fold 1 min = 1
            value 1 = min
            fold 1 max = 2
            value 1 = max
            fold 1 min = 3
            value 1 = max
            # the first one is the least or greatest, not 0
            key 2
            fold 0 5 = 1
            value 0 = 5
            fold 1 -5 = 1
            value 1 = -5
            """);
    }

    // ---- no entry, and what is at hand

    private static void anEntryWithoutAnyNumberIsNone() {
        Script.run("an ENTRY without any number is none", """
            state 1 2 0 = 0
            key 3
            set 0 1 10 = 1
            set 0 2 20 = 1
            remove 0 1 = true
            told 1 = 1
            size 0 = 1
            remove 0 2 = true
            size 0 = 0
            told 1 = 0
            told 5 = 0
            told 6 = 0
            keys 0 = 0
            keyAt 0 0 = index!
            entries -1 0 = 0
            ask -1 0 3 0 0 = none!
            get 0 2 = none!
            item 0 0 = index!
            member 0 0 = index!
            clear 0 = false
            clearSpan = 0
            remove 0 2 = false
            move 0 2 2 = 0
            snapshot = 0
            entries 0 0 = 0
            restore 0 = 0
            """);
    }

    private static void noKeyAtFirst() {
        Script.run("at hand is none at first, also not key 0", """
            state 1 0 0 = 0
            state 2 1 0 = 1
            state 3 2 0 = 2
            state 4 3 0 = 3
            put 0 1 = state!
            value 0 = state!
            add 1 1 = state!
            item 1 0 = state!
            set 2 1 1 = state!
            get 2 1 = state!
            member 2 0 = state!
            remove 2 1 = state!
            fold 3 1 = state!
            size 0 = state!
            clear 0 = state!
            leave = false
            # these need none
            keys 0 = 0
            clearSpan = 0
            snapshot = 0
            entries -1 0 = 0
            move 0 0 0 = 0
            key 0
            put 0 1 = 1
            leave = true
            """);
    }

    private static void spanAtFirst0() {
        Script.run("a SPAN, at first 0", """
            state 1 0 0 = 0
            key 1
            put 0 7 = 1
            ask -1 0 1 0 0 = 7
            ask -1 0 1 1 0 = none!
            ask -1 0 1 -1 0 = none!
            keys 0 = 1
            span 0 = 0
            value 0 = 7
            """);
    }

    private static void theEntryIsThatOfBoth() {
        Script.run("the ENTRY of a STATE is that of both: neighbours and ends are others", """
            state 1 0 0 = 0
            key min
            span intmin = 0
            put 0 1 = 1
            span intmax = intmin
            put 0 2 = 1
            key max
            put 0 3 = 1
            span intmin = intmax
            put 0 4 = 1
            key -9223372036854775807
            size 0 = 0
            key 9223372036854775806
            size 0 = 0
            key min
            span -2147483647 = intmin
            size 0 = 0
            span 2147483646 = -2147483647
            size 0 = 0
            told 1 = 4
            ask -1 0 min intmin 0 = 1
            ask -1 0 min intmax 0 = 2
            ask -1 0 max intmax 0 = 3
            ask -1 0 max intmin 0 = 4
            # keys with the same lower half, the same upper half, or the same k
            span 0 = 2147483646
            key 4294967296
            put 0 5 = 1
            key 1
            size 0 = 0
            key 0
            size 0 = 0
            key 8589934592
            size 0 = 0
            key 4294967297
            size 0 = 0
            """);
    }

    // ---- pages

    /** The document's h, without going round, modulo 16: what goes round in 32 bits leaves the lowest 4 as they are. */
    private static int page(long[] entry) {
        int k = (int) entry[1] ^ (int) (entry[1] >> 32);
        BigInteger times = BigInteger.valueOf(31);
        BigInteger h = BigInteger.valueOf(k).multiply(times).add(BigInteger.valueOf(entry[2])).multiply(times)
                .add(BigInteger.valueOf(entry[0]));
        return h.mod(BigInteger.valueOf(16)).intValue();
    }

    private static String atHand(long[] entry, long spanBefore) {
        return "span " + entry[2] + " = " + spanBefore + "\nkey " + entry[1] + "\n";
    }

    private static void pagesOfEntries() {
        long[][] entries = {
            {0, 0, 0}, {7, 0, 0}, {0, 1, 0}, {0, 15, 0}, {0, 16, 0}, {0, -1, 0}, {0, -16, 0}, {1, -17, 0},
            {0, 0, 1}, {0, 0, -1}, {0, 0, 16}, {0, 0, Integer.MIN_VALUE}, {0, 0, Integer.MAX_VALUE},
            {3, Long.MIN_VALUE, 0}, {3, Long.MAX_VALUE, 0}, {5, Integer.MIN_VALUE, Integer.MIN_VALUE},
            {5, Integer.MAX_VALUE, Integer.MAX_VALUE}, {2, TWO_TO_32, 5}, {2, TWO_TO_32 + 1, 5}, {2, 7 * TWO_TO_32 + 9, -3},
            {6, -TWO_TO_32, 2}, {6, 0x123456789ABCDEFL, 77}, {4, -0x123456789ABCDEFL, -77},
        };
        for (long[] a : entries) {
            for (long[] b : entries) {
                if (a != b) {
                    checkPages(a, b);
                }
            }
        }
    }

    private static void checkPages(long[] a, long[] b) {
        boolean isSame = page(a) == page(b);
        Script.run("an ENTRY is on the PAGE h modulo 16", Script.many(8, "state $ 0 0 = $")
                + atHand(a, 0) + "put " + a[0] + " 1 = 1\n" + atHand(b, a[2]) + "put " + b[0] + " 1 = 1\n"
                + "told 5 = " + (isSame ? 1 : 2) + "\nsnapshot = 0\nput " + b[0] + " 2 = 0\ntold 4 = 1\n"
                + atHand(a, b[2]) + "clear " + a[0] + " = true\ntold 4 = " + (isSame ? 1 : 2)
                + "\ntold 3 = " + (isSame ? 15 : 14) + "\ntold 5 = 1");
    }

    private static void pages0To15() {
        Script.run("PAGES 0 .. 15: none, all, and no more", """
            state 1 0 0 = 0
            told 5 = 0
            """ + Script.many(16, "key $\nput 0 $ = 1\ntold 5 = $+1") + """
            key 16
            put 0 1 = 1
            key -1
            put 0 1 = 1
            key 1000003
            put 0 1 = 1
            told 5 = 16
            snapshot = 0
            told 3 = 16
            """ + Script.many(15, "key $\nput 0 $ = 0\ntold 4 = $+1") + """
            told 3 = 1
            key 15
            put 0 1 = 0
            told 3 = 0
            told 4 = 16
            key 31
            put 0 1 = 1
            told 4 = 16
            clearSpan = 20
            told 4 = 16
            told 5 = 0
            """);
        Script.run("PAGES 0 .. 15: also those without entries are shared", """
            snapshot = 0
            told 3 = 16
            told 5 = 0
            state 1 0 0 = 0
            key 1
            put 0 1 = 1
            told 3 = 15
            told 4 = 1
            """);
    }

    private static void sharedAsLongAsItIsThere() {
        Script.run("SHARED with it, as long as it is there", """
            state 1 0 0 = 0
            key 1
            put 0 1 = 1
            told 3 = 0
            snapshot = 0
            snapshot = 1
            told 3 = 16
            drop 0 = 16
            put 0 2 = 0
            told 4 = 1
            told 3 = 15
            drop 1 = 0
            told 3 = 0
            key 2
            put 0 2 = 1
            key 1
            clear 0 = true
            told 4 = 1
            """);
        Script.run("SHARED with it, as long as it is there: dropped before any change, nothing is copied", """
            state 1 0 0 = 0
            key 1
            put 0 1 = 1
            snapshot = 0
            drop 0 = 0
            put 0 2 = 0
            clearSpan = 1
            told 4 = 0
            """);
    }

    private static void sharedTillTheyChangeHere() {
        Script.run("SHARED till they change here: with the older snapshot no more, with the newer one yet", """
            state 1 0 0 = 0
            key 1
            put 0 1 = 1
            snapshot = 0
            put 0 2 = 0
            told 3 = 15
            snapshot = 1
            told 3 = 16
            drop 0 = 16
            snapshot = 2
            put 0 3 = 0
            told 3 = 15
            drop 1 = 15
            drop 2 = 0
            """);
        Script.run("SHARED till they change here: the newer snapshot goes", """
            state 1 0 0 = 0
            key 1
            put 0 1 = 1
            snapshot = 0
            put 0 2 = 0
            snapshot = 1
            drop 1 = 15
            put 0 3 = 0
            told 4 = 1
            told 3 = 15
            """);
    }

    private static void changesAlsoWhenGivenWhatItHas() {
        Script.run("changes (also when it is given what it has)", """
            state 1 0 0 = 0
            state 2 1 0 = 1
            state 3 2 0 = 2
            state 4 3 1 = 3
            state 5 0 0 = 4
            key 0
            put 0 1 = 1
            add 1 1 = 1
            set 2 1 1 = 1
            fold 3 1 = 1
            put 4 1 = 1
            snapshot = 0
            put 0 1 = 0
            told 4 = 1
            set 2 1 1 = 0
            told 4 = 2
            fold 3 1 = 2
            told 4 = 3
            move 4 0 0 = 1
            told 4 = 4
            told 3 = 12
            # what is asked changes nothing, nor does what finds nothing
            item 1 0 = 1
            size 1 = 1
            remove 2 9 = false
            key 1
            clear 1 = false
            span 9 = 0
            clearSpan = 0
            ask 0 1 0 0 0 = 1
            told 4 = 4
            """);
    }

    private static void copiedFirstAndNotSharedThen() {
        Script.run("it is COPIED first, and not SHARED then: once for six snapshots, the snapshots have what they had", """
            state 1 0 0 = 0
            key 1
            put 0 1 = 1
            """ + Script.many(6, "snapshot = $") + """
            put 0 2 = 0
            told 4 = 1
            told 3 = 15
            put 0 3 = 0
            clear 0 = true
            put 0 4 = 1
            told 4 = 1
            """ + Script.many(6, "ask $ 0 1 0 0 = 1") + """
            ask -1 0 1 0 0 = 4
            drop 0 = 15
            snapshot = 6
            told 3 = 16
            put 0 5 = 0
            told 4 = 2
            ask 6 0 1 0 0 = 4
            ask 5 0 1 0 0 = 1
            """);
        Script.run("it is COPIED first: a page is copied once by one call that changes many entries on it", """
            state 1 0 0 = 0
            """ + Script.many(10, "key 1$\nput 0 $ = 1") + """
            key 26
            put 0 1 = 1
            snapshot = 0
            clearSpan = 11
            told 4 = 10
            told 3 = 6
            restore 0 = 11
            move 0 1 0 = 11
            told 4 = 20
            told 3 = 6
            """);
    }

    private static void restoringSharesAllPages() {
        Script.run("restoring shares all PAGES with that SNAPSHOT", """
            state 1 0 0 = 0
            key 1
            put 0 1 = 1
            snapshot = 0
            put 0 2 = 0
            snapshot = 1
            key 2
            put 0 2 = 1
            key 1
            put 0 3 = 0
            told 4 = 3
            told 3 = 14
            restore 0 = 1
            told 3 = 16
            told 4 = 3
            put 0 1 = 0
            told 4 = 4
            told 3 = 15
            restore 1 = 1
            told 3 = 16
            value 0 = 2
            put 0 1 = 0
            told 4 = 5
            restore 1 = 1
            drop 1 = 15
            put 0 9 = 0
            told 4 = 5
            drop 0 = 0
            """);
        Script.run("restoring shares all PAGES: also when nothing has changed", """
            snapshot = 0
            restore 0 = 0
            told 3 = 16
            told 4 = 0
            drop 0 = 0
            """);
    }

    // ---- moving

    private static boolean isMove(int from, int to) {
        switch (from) {
            case VALUE:
                return to == VALUE || to == LIST || to == FOLD;
            case LIST:
                return to == LIST || to == FOLD;
            case MAP:
                return to == MAP || to == LIST;
            default:
                return to == VALUE;
        }
    }

    private static void whichMovesAreNo() {
        for (int from = VALUE; from <= FOLD; from++) {
            for (int to = VALUE; to <= FOLD; to++) {
                for (int type = 0; type <= 2; type++) {
                    checkMove(from, to, type, false);
                    checkMove(from, to, type, true);
                }
            }
        }
    }

    /** With the number 5, which fits everywhere, or with no entry at all. */
    private static void checkMove(int from, int to, int type, boolean hasEntry) {
        boolean isMove = isMove(from, to);
        Script.run("TO MOVE, " + KIND_NAMES[from] + " to " + KIND_NAMES[to], "state 1 " + from + " " + type + " = 0\nkey 1\n"
                + (hasEntry ? give(from, 5) + " = 1\n" : "") + "snapshot = 0\n"
                + "move 0 " + to + " " + type + " = " + (isMove ? hasEntry ? "1" : "0" : "NO")
                + "\nof 0 1 = " + (isMove ? to : from) + "\nof 0 2 = " + type
                + "\ntold 4 = " + (isMove && hasEntry ? 1 : 0)
                + "\nsize 0 = " + (hasEntry ? 1 : 0)
                + "\nask -1 0 1 0 0 = " + (hasEntry ? "5" : "none!"));
    }

    private static void noWhenSomeNumberWouldNotFit() {
        for (int from = VALUE; from <= FOLD; from++) {
            for (int to = VALUE; to <= FOLD; to++) {
                for (int type = 0; type <= 2 && isMove(from, to); type++) {
                    for (long v : NUMBERS) {
                        checkMoveFits(from, to, type, v);
                    }
                }
            }
        }
        checkOneOfMany();
    }

    /** The number that may not fit is of the first, the second and the third of three entries. */
    private static void checkMoveFits(int from, int to, int type, long v) {
        boolean isFit = fits(to, type, v);
        for (int odd = 1; odd <= 3; odd++) {
            StringBuilder text = new StringBuilder("state 1 " + from + " 0 = 0\n");
            for (int key = 1; key <= 3; key++) {
                text.append("key ").append(key).append('\n').append(give(from, key == odd ? v : 5)).append(" = 1\n");
            }
            text.append("snapshot = 0\nmove 0 ").append(to).append(' ').append(type).append(isFit ? " = 3\n" : " = NO\n");
            text.append("of 0 1 = ").append(isFit ? to : from).append("\nof 0 2 = ").append(isFit ? type : 0);
            text.append("\ntold 4 = ").append(isFit ? 3 : 0);
            text.append("\nask -1 0 ").append(odd).append(" 0 0 = ").append(v);
            Script.run("NO when some number would not FIT", text.toString());
        }
    }

    private static void checkOneOfMany() {
        for (int odd = 0; odd < 10; odd++) {
            for (int from = LIST; from <= MAP; from++) {
                StringBuilder text = new StringBuilder("state 1 " + from + " 0 = 0\nkey 1\n");
                for (int i = 0; i < 10; i++) {
                    int v = i == odd ? 1001 : 1000;
                    text.append(from == LIST ? "add 0 " : "set 0 " + i + " ").append(v).append(" = ")
                            .append(from == LIST ? i + 1 : 1).append('\n');
                }
                text.append("move 0 ").append(from).append(" 1 = NO\nmove 0 1 1 = NO\nmove 0 1 2 = 1\n");
                text.append("item 0 ").append(odd).append(" = 1001");
                Script.run("NO when some number of ten would not FIT", text.toString());
            }
        }
        Script.run("NO when some number would not FIT, in whatever span", """
            state 1 0 0 = 0
            key 1
            put 0 1 = 1
            span intmax = 0
            put 0 -1 = 1
            span intmin = intmax
            put 0 1 = 1
            leave = true
            move 0 0 2 = NO
            move 0 1 2 = NO
            span intmax = intmin
            clearSpan = 1
            move 0 0 2 = 2
            """);
        Script.run("NO when the number that was folded would not FIT, though all those did", """
            state 1 3 0 = 0
            key 1
            fold 0 1000 = 1
            fold 0 1 = 2
            move 0 0 1 = NO
            fold 0 -1 = 3
            move 0 0 1 = 1
            value 0 = 1000
            """);
        Script.run("NO when a sum that has gone round would not FIT", """
            state 1 3 0 = 0
            key 1
            fold 0 max = 1
            fold 0 1 = 2
            move 0 0 2 = NO
            fold 0 -1 = 3
            move 0 0 2 = 1
            """);
    }

    private static void whatNeedNotFitWhenMoved() {
        Script.run("what need not FIT: members, other states, snapshots, what is gone, those folded", """
            state 1 2 0 = 0
            state 2 0 0 = 1
            state 3 3 0 = 2
            key 1
            set 0 min 5 = 1
            set 0 max 1000 = 1
            set 0 3 1001 = 1
            put 1 -5000 = 1
            fold 2 5000 = 1
            fold 2 -4000 = 2
            snapshot = 0
            move 0 2 1 = NO
            remove 0 3 = true
            move 0 2 1 = 1
            member 0 0 = min
            move 0 1 1 = 1
            item 0 1 = 1000
            move 2 0 1 = 1
            value 2 = 1000
            move 1 0 1 = NO
            put 1 -1000 = 0
            move 1 0 1 = 1
            ask 0 1 1 0 0 = -5000
            """);
    }
}
