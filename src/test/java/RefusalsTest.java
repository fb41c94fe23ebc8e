/**
 * "EXCEPTIONS, the first that fits" and "What is refused, and what throws, changes nothing": each pair of reasons that a
 * call can have to be refused, in the document's order. Script looks after every refusal whether anything changed.
 */
public final class RefusalsTest {
    /** Every call with a state S, and the kinds that it takes. */
    private static final String[][] CALLS = {
        {"put S 1", "0"}, {"value S", "03"}, {"add S 1", "1"}, {"item S 0", "12"}, {"set S 1 1", "2"}, {"get S 1", "2"},
        {"member S 0", "2"}, {"remove S 1", "2"}, {"fold S 1", "3"}, {"size S", "0123"}, {"clear S", "0123"},
        {"keys S", "0123"}, {"keyAt S 0", "0123"}, {"ask -1 S 1 0 0", "0123"}, {"ask 0 S 1 0 0", "0123"},
        {"entries -1 S", "0123"}, {"entries 0 S", "0123"}, {"move S 0 0", "0123"}, {"of S 0", "0123"},
    };
    private static final int CALLS_OF_ENTRY_AT_HAND = 11;
    private static final String FOUR_KINDS = "state 1 0 1 = 0\nstate 2 1 1 = 1\nstate 3 2 1 = 2\nstate 4 3 1 = 3\n";
    private static final String ENTRIES = "key 1\nput 0 1 = 1\nadd 1 1 = 1\nset 2 1 1 = 1\nfold 3 1 = 1\n";

    public static void main(String[] args) {
        noSuchState();
        lastStateIsTaken();
        noSuchSnapshot();
        lastSnapshotIsTaken();
        anotherKind();
        aNumberDoesNotFit();
        noKeyIsAtHand();
        indexBeforeAllOthers();
        argumentBeforeState();
        stateBeforeWhatIsTold();
        exceptionsBeforeFull();
        badBeforeNoBeforeFull();
        indexBeforeBad();
        whatIsRefusedCopiesNoPage();
        Script.finish();
    }

    private static void noSuchState() {
        for (int told : new int[] {0, 1, 7, 8}) {
            String states = Script.many(told, "state $ 0 0 = $") + "snapshot = 0\n";
            for (String[] call : CALLS) {
                StringBuilder refused = new StringBuilder();
                for (String state : new String[] {"-1", String.valueOf(told), "8", "intmin", "intmax"}) {
                    refused.append(call[0].replace("S", state)).append(" = index!\n");
                }
                Script.run("no such STATE, " + told + " told", states + refused + "key 1\n" + refused);
            }
        }
    }

    private static void lastStateIsTaken() {
        for (String[] call : CALLS) {
            for (char kind : call[1].toCharArray()) {
                String change = ENTRIES.split("\n")[1 + kind - '0'].replaceFirst(" \\d", " 7");
                String answer = call[0].startsWith("put") || call[0].startsWith("set") ? "0"
                        : call[0].startsWith("add") || call[0].startsWith("fold") ? "2"
                        : call[0].startsWith("remove") || call[0].startsWith("clear") ? "true"
                        : call[0].startsWith("move") ? kind == '0' || kind == '3' ? "1" : "NO"
                        : call[0].startsWith("of") ? "8" : "1";
                Script.run("the last STATE is taken", Script.many(7, "state $ 0 0 = $") + "state 8 " + kind + " 0 = 7\nkey 1\n"
                        + change + "\nsnapshot = 0\n" + call[0].replace("S", "7") + " = " + answer);
            }
        }
    }

    private static void noSuchSnapshot() {
        String[] calls = {"drop N", "restore N", "ask N 0 1 0 0", "entries N 0"};
        for (String call : calls) {
            boolean takesNow = call.contains(" 0");
            String now = takesNow ? "" : call.replace("N", "-1") + " = index!\n";
            String refused = now + call.replace("N", "-2") + " = index!\n" + call.replace("N", "intmin") + " = index!\n"
                    + call.replace("N", "intmax") + " = index!\n";
            Script.run("no such SNAPSHOT", FOUR_KINDS + ENTRIES + refused + call.replace("N", "0") + " = index!\n"
                    + "snapshot = 0\nsnapshot = 1\n" + refused + call.replace("N", "2") + " = index!\n"
                    + "drop 0 = 16\n" + refused + call.replace("N", "0") + " = index!\n"
                    + Script.many(5, "snapshot = $+2") + "snapshot = FULL\n" + refused
                    + call.replace("N", "7") + " = index!\n" + call.replace("N", "0") + " = index!\n");
        }
    }

    private static void lastSnapshotIsTaken() {
        Script.run("the first and the last of six SNAPSHOTS are taken", FOUR_KINDS + ENTRIES + Script.many(6, "snapshot = $") + """
            ask 0 0 1 0 0 = 1
            ask 5 0 1 0 0 = 1
            ask 6 0 1 0 0 = index!
            entries 0 3 = 1
            entries 5 3 = 1
            entries 6 3 = index!
            restore 0 = 4
            restore 5 = 4
            restore 6 = index!
            drop 6 = index!
            drop 5 = 16
            drop 0 = 16
            drop 0 = index!
            drop 5 = index!
            snapshot = 6
            restore 6 = 4
            drop 6 = 16
            """);
    }

    private static void anotherKind() {
        for (String[] call : CALLS) {
            for (int kind = 0; kind < 4; kind++) {
                if (!call[1].contains(String.valueOf(kind))) {
                    String refused = call[0].replace("S", String.valueOf(kind)) + " = argument!\n";
                    // With an entry, without one, with no key at hand.
                    Script.run("another KIND", FOUR_KINDS + refused + ENTRIES + "snapshot = 0\n" + refused + "key 2\n" + refused
                            + "leave = true\n" + refused);
                }
            }
        }
        Script.run("another KIND than before it was moved", FOUR_KINDS + ENTRIES + """
            move 0 1 1 = 1
            put 0 1 = argument!
            value 0 = argument!
            item 0 0 = 1
            move 2 1 1 = 1
            set 2 1 1 = argument!
            get 2 1 = argument!
            member 2 0 = argument!
            remove 2 1 = argument!
            item 2 0 = 1
            move 1 3 0 = 1
            add 1 1 = argument!
            item 1 0 = argument!
            value 1 = 1
            move 3 0 1 = 1
            fold 3 1 = argument!
            value 3 = 1
            """);
    }

    private static void aNumberDoesNotFit() {
        Script.run("a number does not FIT any more when its state was moved, and fits again when it went back", """
            state 1 0 0 = 0
            key 1
            put 0 -1 = 1
            snapshot = 0
            put 0 1 = 0
            move 0 0 2 = 1
            put 0 -1 = argument!
            put 0 0 = 0
            move 0 0 1 = 1
            put 0 1001 = argument!
            put 0 -1000 = 0
            restore 0 = 1
            put 0 1001 = 0
            put 0 min = 0
            """);
    }

    private static void noKeyIsAtHand() {
        for (int c = 0; c < CALLS_OF_ENTRY_AT_HAND; c++) {
            for (char kind : CALLS[c][1].toCharArray()) {
                String refused = CALLS[c][0].replace("S", String.valueOf(kind)) + " = state!\n";
                Script.run("no KEY is at hand", FOUR_KINDS + refused + ENTRIES + "leave = true\nsnapshot = 0\n" + refused
                        + "span 1 = 0\n" + refused + "restore 0 = 4\n" + refused);
            }
        }
        for (int c = CALLS_OF_ENTRY_AT_HAND; c < CALLS.length; c++) {
            String call = CALLS[c][0].replace("S", "0") + " = 1\n";
            Script.run("no KEY need be at hand", FOUR_KINDS + ENTRIES + "leave = true\nsnapshot = 0\n" + call + "leave = false\n");
        }
    }

    private static void indexBeforeAllOthers() {
        Script.run("no such STATE before another KIND, what does not FIT, no KEY, none such", FOUR_KINDS + """
            put 4 1001 = index!
            value 4 = index!
            add -1 1001 = index!
            item 4 -1 = index!
            set 4 1 1001 = index!
            get 4 1 = index!
            member 4 -1 = index!
            remove 4 1 = index!
            fold 4 1 = index!
            size 4 = index!
            clear 4 = index!
            keyAt 4 -1 = index!
            of 4 3 = index!
            ask 0 4 1 0 0 = index!
            ask 0 0 1 0 -1 = index!
            ask -1 4 1 0 -1 = index!
            entries 0 4 = index!
            """);
    }

    private static void argumentBeforeState() {
        Script.run("another KIND, what does not FIT before no KEY", FOUR_KINDS + """
            put 1 1001 = argument!
            put 0 1001 = argument!
            put 0 -1001 = argument!
            put 0 1000 = state!
            put 0 -1000 = state!
            value 1 = argument!
            value 0 = state!
            add 0 1 = argument!
            add 1 1001 = argument!
            add 1 1000 = state!
            item 0 -1 = argument!
            item 1 -1 = state!
            set 0 1 1 = argument!
            set 2 1 1001 = argument!
            set 2 1001 1000 = state!
            get 1 1 = argument!
            get 2 1 = state!
            member 1 -1 = argument!
            member 2 -1 = state!
            remove 1 1 = argument!
            remove 2 1 = state!
            fold 0 1 = argument!
            fold 3 1001 = state!
            """);
    }

    private static void stateBeforeWhatIsTold() {
        Script.run("no KEY before there is no ENTRY, MEMBER, none such", FOUR_KINDS + """
            value 0 = state!
            value 3 = state!
            item 1 0 = state!
            item 2 intmin = state!
            get 2 7 = state!
            member 2 intmax = state!
            key 1
            value 0 = none!
            value 3 = none!
            item 1 0 = index!
            item 2 intmin = index!
            get 2 7 = none!
            member 2 intmax = index!
            remove 2 7 = false
            clear 0 = false
            size 0 = 0
            """);
    }

    private static void exceptionsBeforeFull() {
        Script.run("exceptions before FULL, 150 entries", Script.full() + """
            move 0 0 2 = 19
            move 1 1 2 = 19
            move 2 2 2 = 19
            key 19
            put 8 1 = index!
            put 1 1 = argument!
            put 0 -1 = argument!
            put 0 0 = FULL
            add 8 1 = index!
            add 0 1 = argument!
            add 1 -1 = argument!
            add 1 0 = FULL
            set 8 1 1 = index!
            set 1 1 1 = argument!
            set 2 1 -1 = argument!
            set 2 1 0 = FULL
            fold 8 1 = index!
            fold 2 1 = argument!
            fold 3 -1 = FULL
            leave = true
            put 0 0 = state!
            add 1 0 = state!
            set 2 1 0 = state!
            fold 3 -1 = state!
            """);
        Script.run("exceptions before FULL, 10 numbers", FOUR_KINDS + "key 1\n"
                + Script.many(10, "add 1 $ = $+1\nset 2 $ $ = 1") + """
            add 1 1001 = argument!
            add 1 1000 = FULL
            set 2 10 -1001 = argument!
            set 2 10 -1000 = FULL
            set 2 9 -1001 = argument!
            leave = true
            add 1 1000 = state!
            set 2 10 -1000 = state!
            """);
    }

    private static void badBeforeNoBeforeFull() {
        Script.run("BAD before NO before FULL", Script.many(8, "state $ 0 1 = $") + """
            state 0 4 1 = BAD
            state 0 0 3 = BAD
            state 0 3 1 = NO
            state 0 0 2 = NO
            state 0 0 0 = NO
            state 0 0 1 = 0
            state 8 4 1 = BAD
            state 8 0 -1 = BAD
            state 8 3 2 = FULL
            state 8 0 0 = FULL
            """);
        Script.run("BAD before NO when a state is moved", """
            state 1 0 0 = 0
            key 1
            put 0 -1001 = 1
            snapshot = 0
            move 0 4 0 = BAD
            move 0 -1 0 = BAD
            move 0 2 3 = BAD
            move 0 2 -1 = BAD
            move 0 2 0 = NO
            move 0 0 3 = BAD
            move 0 0 2 = NO
            move 0 0 1 = NO
            move 0 0 0 = 1
            """);
    }

    private static void indexBeforeBad() {
        Script.run("no such STATE before BAD", """
            move 0 4 0 = index!
            move 0 0 3 = index!
            state 1 0 0 = 0
            move 1 4 0 = index!
            move -1 0 -1 = index!
            move intmax 2 0 = index!
            move 0 4 0 = BAD
            """);
    }

    private static void whatIsRefusedCopiesNoPage() {
        String refused = """
            put 0 1001 = argument!
            put 1 1 = argument!
            put 4 1 = index!
            value 1 = argument!
            add 1 1 = FULL
            add 1 -1001 = argument!
            item 1 10 = index!
            set 2 10 1 = FULL
            set 2 0 1001 = argument!
            get 2 10 = none!
            member 2 10 = index!
            remove 2 10 = false
            remove 2 -1 = false
            remove 1 1 = argument!
            fold 0 1 = argument!
            clear 4 = index!
            keyAt 0 1 = index!
            ask -1 0 0 0 1 = none!
            ask 0 0 0 1 0 = none!
            move 0 2 0 = NO
            move 1 1 2 = NO
            move 2 0 0 = NO
            move 3 3 1 = NO
            move 0 0 3 = BAD
            restore 9 = index!
            drop 9 = index!
            told 7 = BAD
            """;
        String told = "told 3 = 16\ntold 4 = 0\n";
        Script.run("what is refused copies no page", FOUR_KINDS + "key 0\nput 0 1 = 1\nfold 3 1 = 1\n"
                + Script.many(10, "add 1 -$ = $+1\nset 2 $ $ = 1") + "snapshot = 0\n" + refused + told
                + "leave = true\nput 0 1 = state!\nadd 1 1 = state!\nset 2 1 1 = state!\nremove 2 1 = state!\nfold 3 1 = state!\n"
                + "clear 0 = state!\n" + told);
    }
}
