/**
 * The boundary cases that promises 1 to 27 name themselves, a method a promise: nothing there, the first and the last that
 * is taken, the first that is refused, on both sides. Those of the terms are in TermsTest, the order of the refusals is in
 * RefusalsTest. Script looks after every refusal whether anything changed.
 */
public final class BoundariesTest {
    private static final String FOUR_KINDS = "state 1 0 0 = 0\nstate 2 1 0 = 1\nstate 3 2 0 = 2\nstate 4 3 0 = 3\n";

    public static void main(String[] args) {
        promise1NewObject();
        promise2State();
        promise3Key();
        promise4Leave();
        promise5Span();
        promise6Put();
        promise7Value();
        promise8Add();
        promise9Item();
        promise10Set();
        promise11Get();
        promise12Member();
        promise13Remove();
        promise14Fold();
        promise15Size();
        promise16Clear();
        promise17ClearSpan();
        promise18Keys();
        promise19KeyAt();
        promise20Snapshot();
        promise21Drop();
        promise22Ask();
        promise23Entries();
        promise24Restore();
        promise25Move();
        promise26Of();
        promise27Told();
        objectOf512Calls();
        Script.finish();
    }

    private static void promise1NewObject() {
        Script.run("1: No STATES", Script.many(7, "told $ = 0") + """
            of 0 0 = index!
            of -1 0 = index!
            keys 0 = index!
            entries -1 0 = index!
            ask -1 0 0 0 0 = index!
            size 0 = index!
            move 0 0 0 = index!
            leave = false
            clearSpan = 0
            span 5 = 0
            """);
    }

    private static void promise2State() {
        Script.run("2: its number (also if one with this NAME, KIND and TYPE is there): also the last one, also when full", """
            state 0 0 0 = 0
            state 0 0 0 = 0
            told 0 = 1
            state -1 3 2 = 1
            state -1 3 2 = 1
            state 1 0 0 = 2
            state 2 0 0 = 3
            state 3 0 0 = 4
            state 4 0 0 = 5
            state 5 0 0 = 6
            state 6 3 2 = 7
            state 6 3 2 = 7
            state 0 0 0 = 0
            told 0 = 8
            """);
        Script.run("2: NO: this NAME has another KIND or TYPE: each alone, and both", """
            state 9 1 1 = 0
            state 9 0 1 = NO
            state 9 2 1 = NO
            state 9 3 1 = NO
            state 9 1 0 = NO
            state 9 1 2 = NO
            state 9 2 2 = NO
            state 9 1 1 = 0
            told 0 = 1
            """);
        Script.run("2: NO by the KIND and TYPE of now: moved, and back", """
            state 9 0 0 = 0
            snapshot = 0
            move 0 1 2 = 0
            state 9 0 0 = NO
            state 9 1 0 = NO
            state 9 1 2 = 0
            restore 0 = 0
            state 9 1 2 = NO
            state 9 0 0 = 0
            """);
    }

    private static void promise3Key() {
        Script.run("3: a KEY is at hand: any, also the one that is", """
            state 1 0 0 = 0
            key min
            put 0 1 = 1
            key min
            put 0 2 = 0
            key max
            put 0 3 = 1
            key 0
            put 0 4 = 1
            key -1
            put 0 5 = 1
            keys 0 = 4
            keyAt 0 0 = min
            keyAt 0 1 = -1
            keyAt 0 2 = 0
            keyAt 0 3 = max
            """);
    }

    private static void promise4Leave() {
        Script.run("4: whether one was", """
            leave = false
            leave = false
            key 0
            leave = true
            leave = false
            key max
            key min
            leave = true
            leave = false
            state 1 0 0 = 0
            put 0 1 = state!
            # the span stays at hand
            span 7 = 0
            key 1
            leave = true
            span 0 = 7
            """);
    }

    private static void promise5Span() {
        Script.run("5: which one was", """
            span intmax = 0
            span intmax = intmax
            span intmin = intmax
            span -1 = intmin
            span -3 = -1
            span -4 = -3
            span 0 = -4
            span 0 = 0
            # the key stays at hand
            state 1 0 0 = 0
            key 5
            put 0 1 = 1
            span 1 = 0
            put 0 2 = 1
            leave = true
            """);
    }

    private static void promise6Put() {
        Script.run("6: 1: there was no ENTRY, 0", """
            state 1 0 0 = 0
            key 1
            put 0 0 = 1
            put 0 0 = 0
            put 0 max = 0
            put 0 min = 0
            value 0 = min
            size 0 = 1
            clear 0 = true
            put 0 0 = 1
            clearSpan = 1
            put 0 0 = 1
            snapshot = 0
            clear 0 = true
            put 0 5 = 1
            restore 0 = 1
            put 0 5 = 0
            """);
        Script.run("6: FULL", Script.full() + """
            snapshot = 0
            key 19
            put 0 1 = FULL
            put 4 1 = FULL
            key 18
            put 0 1 = 0
            put 4 1 = 0
            clear 4 = true
            put 4 1 = 1
            key -1
            put 4 1 = FULL
            """);
    }

    private static void promise7Value() {
        Script.run("7: there is no ENTRY: not yet, of another key, span, state, and no more", """
            state 1 0 0 = 0
            state 2 3 0 = 1
            state 3 0 0 = 2
            key 0
            value 0 = none!
            value 1 = none!
            put 0 0 = 1
            fold 1 0 = 1
            value 0 = 0
            value 1 = 0
            value 2 = none!
            key 1
            value 0 = none!
            value 1 = none!
            key -1
            value 0 = none!
            key 0
            span 1 = 0
            value 0 = none!
            span -1 = 1
            value 1 = none!
            span 0 = -1
            value 0 = 0
            snapshot = 0
            clear 0 = true
            clear 1 = true
            value 0 = none!
            value 1 = none!
            restore 0 = 2
            value 0 = 0
            value 1 = 0
            """);
    }

    private static void promise8Add() {
        Script.run("8: FULL: 10", """
            state 1 1 0 = 0
            key 1
            """ + Script.many(9, "add 0 $ = $+1") + """
            add 0 9 = 10
            snapshot = 0
            add 0 10 = FULL
            add 0 9 = FULL
            clear 0 = true
            add 0 1 = 1
            restore 0 = 1
            add 0 10 = FULL
            """);
        Script.run("8: FULL: or 150 ENTRIES", Script.full() + """
            snapshot = 0
            key 19
            add 1 1 = FULL
            add 5 1 = FULL
            key 18
            """ + Script.many(9, "add 1 $ = $+2") + """
            add 1 1 = FULL
            told 1 = 150
            told 6 = 159
            """);
    }

    private static void promise9Item() {
        Script.run("9: LIST: none such", """
            state 1 1 0 = 0
            key 1
            item 0 -1 = index!
            item 0 0 = index!
            add 0 7 = 1
            item 0 -1 = index!
            item 0 0 = 7
            item 0 1 = index!
            """ + Script.many(9, "add 0 $ = $+2") + """
            item 0 0 = 7
            item 0 9 = 8
            item 0 10 = index!
            item 0 11 = index!
            item 0 -1 = index!
            item 0 intmin = index!
            item 0 intmax = index!
            # i times 10, or 16, must not go round
            item 0 429496730 = index!
            item 0 268435456 = index!
            """);
        Script.run("9: MAP: none such, by rising MEMBERS", """
            state 1 2 0 = 0
            key 1
            item 0 0 = index!
            set 0 max 1 = 1
            item 0 0 = 1
            item 0 1 = index!
            set 0 min 2 = 1
            item 0 0 = 2
            item 0 1 = 1
            item 0 2 = index!
            item 0 -1 = index!
            """ + Script.many(8, "set 0 -$ $ = 1") + """
            item 0 0 = 2
            item 0 1 = 7
            item 0 8 = 0
            item 0 9 = 1
            item 0 10 = index!
            item 0 -1 = index!
            item 0 intmin = index!
            item 0 intmax = index!
            """);
    }

    private static void promise10Set() {
        Script.run("10: 1: it was not there, 0", """
            state 1 2 0 = 0
            key 1
            set 0 0 0 = 1
            set 0 0 0 = 0
            set 0 -1 0 = 1
            set 0 1 0 = 1
            set 0 min 0 = 1
            set 0 max 0 = 1
            set 0 min 1 = 0
            set 0 max 1 = 0
            remove 0 0 = true
            set 0 0 0 = 1
            key 2
            set 0 0 0 = 1
            """);
        Script.run("10: FULL: 10, a new MEMBER before, among and behind those", """
            state 1 2 0 = 0
            key 1
            """ + Script.many(10, "set 0 $0 $ = 1") + """
            snapshot = 0
            set 0 -1 1 = FULL
            set 0 45 1 = FULL
            set 0 91 1 = FULL
            set 0 min 1 = FULL
            set 0 max 1 = FULL
            set 0 90 1 = 0
            set 0 0 1 = 0
            remove 0 40 = true
            set 0 41 1 = 1
            set 0 40 1 = FULL
            """);
        Script.run("10: FULL: or 150 ENTRIES", Script.full() + """
            snapshot = 0
            set 6 1 1 = FULL
            key 19
            set 2 1 1 = FULL
            key 18
            set 2 18 1 = 0
            set 2 min 1 = 1
            remove 2 min = true
            remove 2 18 = true
            set 6 1 1 = 1
            set 2 18 1 = FULL
            """);
    }

    private static void promise11Get() {
        Script.run("11: it is not there: no ENTRY, beside the first and the last MEMBER, gone", """
            state 1 2 0 = 0
            key 1
            get 0 0 = none!
            set 0 5 50 = 1
            get 0 5 = 50
            get 0 4 = none!
            get 0 6 = none!
            get 0 min = none!
            get 0 max = none!
            get 0 4294967301 = none!
            set 0 min 1 = 1
            set 0 max 2 = 1
            get 0 min = 1
            get 0 max = 2
            get 0 -9223372036854775807 = none!
            get 0 9223372036854775806 = none!
            remove 0 max = true
            get 0 max = none!
            key 2
            get 0 5 = none!
            key 1
            span 1 = 0
            get 0 5 = none!
            span 0 = 1
            clear 0 = true
            get 0 5 = none!
            """);
    }

    private static void promise12Member() {
        Script.run("12: none such", """
            state 1 2 0 = 0
            key 1
            member 0 -1 = index!
            member 0 0 = index!
            set 0 3 1 = 1
            member 0 -1 = index!
            member 0 0 = 3
            member 0 1 = index!
            """ + Script.many(9, "set 0 -$ 1 = 1") + """
            member 0 0 = -8
            member 0 9 = 3
            member 0 10 = index!
            member 0 -1 = index!
            member 0 intmin = index!
            member 0 intmax = index!
            member 0 429496730 = index!
            remove 0 -8 = true
            member 0 0 = -7
            member 0 8 = 3
            member 0 9 = index!
            """);
    }

    private static void promise13Remove() {
        Script.run("13: whether it was there: no ENTRY, the first, one among, the last of ten, the only one", """
            state 1 2 0 = 0
            key 1
            snapshot = 0
            remove 0 0 = false
            """ + Script.many(10, "set 0 $ $ = 1") + """
            snapshot = 1
            remove 0 -1 = false
            remove 0 10 = false
            remove 0 min = false
            remove 0 max = false
            told 4 = 1
            remove 0 0 = true
            remove 0 0 = false
            remove 0 9 = true
            remove 0 9 = false
            remove 0 5 = true
            remove 0 5 = false
            size 0 = 7
            member 0 0 = 1
            member 0 6 = 8
            item 0 4 = 6
            """ + Script.many(4, "remove 0 $+1 = true") + """
            remove 0 6 = true
            remove 0 7 = true
            told 1 = 1
            member 0 0 = 8
            remove 0 8 = true
            told 1 = 0
            remove 0 8 = false
            told 4 = 2
            """);
    }

    private static void promise14Fold() {
        Script.run("14: how many were: no limit of 10", """
            state 1 3 0 = 0
            key 1
            """ + Script.many(12, "fold 0 $ = $+1") + """
            size 0 = 12
            value 0 = 66
            clear 0 = true
            fold 0 5 = 1
            value 0 = 5
            """);
        Script.run("14: how many were: those of a list, a value count on", """
            state 1 1 0 = 0
            state 2 0 0 = 1
            key 1
            """ + Script.many(10, "add 0 $ = $+1") + """
            put 1 7 = 1
            move 0 3 2 = 1
            fold 0 1 = 11
            value 0 = 9
            move 1 3 1 = 1
            fold 1 8 = 2
            value 1 = 7
            move 0 0 0 = 1
            size 0 = 1
            move 0 3 0 = 1
            fold 0 1 = 2
            """);
        Script.run("14: FULL", Script.full() + """
            snapshot = 0
            fold 7 1 = FULL
            key 19
            fold 3 1 = FULL
            key 18
            fold 3 1 = 2
            clear 3 = true
            fold 7 1 = 1
            fold 7 1 = 2
            fold 3 1 = FULL
            """);
    }

    private static void promise15Size() {
        Script.run("15: 0: there is none; 1, 10, more that were folded", FOUR_KINDS + """
            key 1
            size 0 = 0
            size 1 = 0
            size 2 = 0
            size 3 = 0
            size 4 = index!
            size -1 = index!
            put 0 0 = 1
            size 0 = 1
            """ + Script.many(10, "add 1 $ = $+1\nsize 1 = $+1\nset 2 $ 0 = 1\nsize 2 = $+1") + """
            add 1 1 = FULL
            size 1 = 10
            set 2 10 1 = FULL
            size 2 = 10
            """ + Script.many(11, "fold 3 0 = $+1\nsize 3 = $+1") + """
            key 2
            size 3 = 0
            key 1
            span 1 = 0
            size 3 = 0
            """);
    }

    private static void promise16Clear() {
        Script.run("16: whether there was one", FOUR_KINDS + """
            key 1
            snapshot = 0
            clear 0 = false
            clear 3 = false
            told 4 = 0
            put 0 1 = 1
            add 1 1 = 1
            set 2 1 1 = 1
            fold 3 1 = 1
            key 2
            clear 0 = false
            key 1
            span 1 = 0
            clear 0 = false
            span 0 = 1
            clear 4 = index!
            clear -1 = index!
            clear 0 = true
            clear 0 = false
            clear 1 = true
            clear 1 = false
            clear 2 = true
            clear 2 = false
            clear 3 = true
            clear 3 = false
            told 1 = 0
            """);
        Script.run("16: the first and the last of 150", Script.full() + """
            clear 5 = true
            key 0
            clear 0 = true
            told 1 = 148
            key 1
            value 0 = 1
            key 17
            value 7 = 17
            """);
    }

    private static void promise17ClearSpan() {
        Script.run("17: how many: none, one, all 150", Script.full() + """
            span 1 = 0
            clearSpan = 0
            span -1 = 1
            clearSpan = 0
            leave = true
            span 0 = -1
            snapshot = 0
            clearSpan = 150
            told 1 = 0
            told 4 = 16
            clearSpan = 0
            key 5
            put 0 1 = 1
            clearSpan = 1
            restore 0 = 150
            clearSpan = 150
            """);
        Script.run("17: of the SPAN at hand: the others stay, also at both ends", """
            state 1 0 0 = 0
            state 2 0 0 = 1
            key 1
            span intmin = 0
            put 0 1 = 1
            span intmax = intmin
            put 0 2 = 1
            put 1 2 = 1
            span 0 = intmax
            put 0 3 = 1
            span -1 = 0
            clearSpan = 0
            span intmax = -1
            clearSpan = 2
            told 1 = 2
            span intmin = intmax
            clearSpan = 1
            ask -1 0 1 0 0 = 3
            span 0 = intmin
            value 0 = 3
            clearSpan = 1
            told 1 = 0
            """);
    }

    private static void promise18Keys() {
        Script.run("18: how many KEYS: none, one, not those of other states and spans", """
            state 1 0 0 = 0
            state 2 0 0 = 1
            keys 0 = 0
            keys 2 = index!
            keys -1 = index!
            key 1
            put 0 1 = 1
            put 0 2 = 0
            keys 0 = 1
            keys 1 = 0
            span 1 = 0
            keys 0 = 0
            put 0 1 = 1
            put 1 1 = 1
            key 2
            put 0 1 = 1
            keys 0 = 2
            keys 1 = 1
            span 0 = 1
            keys 0 = 1
            clearSpan = 1
            keys 0 = 0
            """);
        Script.run("18, 19: 150 KEYS, the 150th is the last", """
            state 1 0 0 = 0
            """ + Script.many(150, "key -$\nput 0 $ = 1") + """
            keys 0 = 150
            keyAt 0 0 = -149
            keyAt 0 149 = 0
            keyAt 0 150 = index!
            keyAt 0 -1 = index!
            key 1
            put 0 1 = FULL
            keys 0 = 150
            keyAt 0 149 = 0
            """);
    }

    private static void promise19KeyAt() {
        Script.run("19: also none such", """
            state 1 0 0 = 0
            state 2 0 0 = 1
            keyAt 0 0 = index!
            keyAt 0 -1 = index!
            keyAt 2 0 = index!
            keyAt -1 0 = index!
            key 7
            put 0 1 = 1
            span 1 = 0
            key 8
            put 0 1 = 1
            put 1 1 = 1
            span -1 = 1
            key 6
            put 0 1 = 1
            span 0 = -1
            keyAt 0 0 = 7
            keyAt 0 1 = index!
            keyAt 0 -1 = index!
            keyAt 1 0 = index!
            keyAt 0 intmin = index!
            keyAt 0 intmax = index!
            """);
        Script.run("19: by rising ones, of 64 bits", """
            state 1 0 0 = 0
            key 4294967296
            put 0 1 = 1
            key max
            put 0 1 = 1
            key -4294967296
            put 0 1 = 1
            key 1
            put 0 1 = 1
            key min
            put 0 1 = 1
            key -1
            put 0 1 = 1
            keyAt 0 0 = min
            keyAt 0 1 = -4294967296
            keyAt 0 2 = -1
            keyAt 0 3 = 1
            keyAt 0 4 = 4294967296
            keyAt 0 5 = max
            keyAt 0 6 = index!
            """);
    }

    private static void promise20Snapshot() {
        Script.run("20: FULL: 6 are there; what is refused uses no number", """
            state 1 0 0 = 0
            key 1
            put 0 1 = 1
            """ + Script.many(6, "snapshot = $\ntold 2 = $+1") + """
            put 0 2 = 0
            snapshot = FULL
            snapshot = FULL
            told 2 = 6
            drop 0 = 15
            snapshot = 6
            snapshot = FULL
            ask 6 0 1 0 0 = 2
            drop 5 = 16
            drop 3 = 16
            snapshot = 7
            snapshot = 8
            snapshot = FULL
            told 2 = 6
            """);
        Script.run("20: numbered as they are taken: no number comes again, also when none is there", """
            snapshot = 0
            drop 0 = 0
            snapshot = 1
            drop 1 = 0
            """ + Script.many(20, "snapshot = $+2\ndrop $+2 = 0") + """
            told 2 = 0
            drop 21 = index!
            drop 22 = index!
            snapshot = 22
            """);
    }

    private static void promise21Drop() {
        Script.run("21: how many PAGES are SHARED then: 16, some, none", """
            state 1 0 0 = 0
            drop 0 = index!
            snapshot = 0
            snapshot = 1
            drop 1 = 16
            key 1
            put 0 1 = 1
            snapshot = 2
            drop 2 = 15
            snapshot = 3
            drop 0 = 16
            drop 3 = 0
            drop 3 = index!
            drop -1 = index!
            drop 4 = index!
            """);
        Script.run("21: what is there now stays", Script.full() + """
            snapshot = 0
            drop 0 = 0
            told 1 = 150
            key 0
            value 0 = 0
            """);
    }

    private static void promise22Ask() {
        for (String snapshot : new String[] {"-1", "0"}) {
            Script.run("22: no such number: VALUE, FOLD: 0 alone", FOUR_KINDS + """
                key 1
                put 0 10 = 1
                fold 3 5 = 1
                fold 3 6 = 2
                snapshot = 0
                ask N 0 1 0 0 = 10
                ask N 0 1 0 1 = none!
                ask N 0 1 0 -1 = none!
                ask N 3 1 0 0 = 11
                ask N 3 1 0 1 = none!
                ask N 3 1 0 2 = none!
                ask N 3 1 0 -1 = none!
                ask N 0 1 0 intmin = none!
                ask N 3 1 0 intmax = none!
                """.replace("N", snapshot));
            Script.run("22: no such number: LIST, MAP: 1 and 10", FOUR_KINDS + """
                key 1
                add 1 7 = 1
                set 2 5 8 = 1
                key 2
                """ + Script.many(10, "add 1 $ = $+1\nset 2 -$ $ = 1") + """
                snapshot = 0
                ask N 1 1 0 0 = 7
                ask N 1 1 0 1 = none!
                ask N 1 1 0 -1 = none!
                ask N 2 1 0 0 = 8
                ask N 2 1 0 1 = none!
                ask N 2 1 0 -1 = none!
                ask N 1 2 0 0 = 0
                ask N 1 2 0 9 = 9
                ask N 1 2 0 10 = none!
                ask N 1 2 0 -1 = none!
                ask N 2 2 0 0 = 9
                ask N 2 2 0 9 = 0
                ask N 2 2 0 10 = none!
                ask N 2 2 0 intmax = none!
                ask N 2 2 0 intmin = none!
                """.replace("N", snapshot));
            Script.run("22: no such ENTRY", FOUR_KINDS + """
                key min
                span intmin = 0
                put 0 1 = 1
                snapshot = 0
                ask N 0 min intmin 0 = 1
                ask N 0 -9223372036854775807 intmin 0 = none!
                ask N 0 max intmin 0 = none!
                ask N 0 0 intmin 0 = none!
                ask N 0 min -2147483647 0 = none!
                ask N 0 min intmax 0 = none!
                ask N 0 min 0 0 = none!
                ask N 1 min intmin 0 = none!
                ask N 4 min intmin 0 = index!
                ask N -1 min intmin 0 = index!
                ask -2 0 min intmin 0 = index!
                ask 1 0 min intmin 0 = index!
                """.replace("N", snapshot));
        }
        Script.run("22: a STATE that was told after the SNAPSHOT has no ENTRY there", """
            snapshot = 0
            ask 0 0 1 0 0 = index!
            state 1 0 0 = 0
            ask 0 0 1 0 0 = none!
            key 1
            put 0 5 = 1
            ask 0 0 1 0 0 = none!
            ask -1 0 1 0 0 = 5
            """);
    }

    private static void promise23Entries() {
        Script.run("23: how many: none, 150, of now and of then", """
            state 1 0 0 = 0
            snapshot = 0
            """ + Script.many(150, "key $\nput 0 $ = 1") + """
            snapshot = 1
            entries -1 0 = 150
            entries 0 0 = 0
            entries 1 0 = 150
            entries 2 0 = index!
            entries -2 0 = index!
            entries -1 1 = index!
            entries 1 -1 = index!
            state 2 0 0 = 1
            entries 1 1 = 0
            entries -1 1 = 0
            entries 1 2 = index!
            clearSpan = 150
            entries -1 0 = 0
            entries 1 0 = 150
            drop 1 = 0
            entries 1 0 = index!
            """);
    }

    private static void promise24Restore() {
        Script.run("24: how many: none, all 150, from none to all and back", "snapshot = 0\n" + Script.full() + """
            snapshot = 1
            restore 0 = 0
            told 0 = 8
            told 1 = 0
            told 5 = 0
            told 6 = 0
            put 0 1 = 1
            restore 1 = 150
            told 6 = 150
            value 0 = 18
            restore 2 = index!
            restore -1 = index!
            restore 1 = 150
            put 0 1 = 0
            key 19
            put 0 1 = FULL
            """);
        Script.run("24: KINDS and TYPES, too, of the STATES that there were; those told later have no ENTRIES", """
            state 1 0 1 = 0
            key 1
            put 0 5 = 1
            snapshot = 0
            move 0 3 2 = 1
            fold 0 5000 = 2
            state 2 0 2 = 1
            put 1 9 = 1
            move 1 1 0 = 1
            snapshot = 1
            restore 0 = 1
            of 0 1 = 0
            of 0 2 = 1
            value 0 = 5
            put 0 1001 = argument!
            put 0 1000 = 0
            of 1 0 = 2
            of 1 1 = 1
            of 1 2 = 0
            size 1 = 0
            entries -1 1 = 0
            add 1 -1 = 1
            restore 1 = 2
            value 0 = 5000
            size 0 = 2
            item 1 0 = 9
            of 0 1 = 3
            """);
        Script.run("24: what is at hand, the SNAPSHOTS stay", """
            state 1 0 0 = 0
            snapshot = 0
            key 4
            span 6 = 0
            put 0 1 = 1
            snapshot = 1
            restore 0 = 0
            told 2 = 2
            size 0 = 0
            put 0 2 = 1
            ask -1 0 4 6 0 = 2
            span 6 = 6
            leave = true
            restore 1 = 1
            leave = false
            value 0 = state!
            snapshot = 2
            told 2 = 3
            """);
    }

    private static void promise25Move() {
        Script.run("25: how many ENTRIES: none, one, 150 in all spans", """
            state 1 0 0 = 0
            state 2 0 0 = 1
            move 0 0 0 = 0
            key 1
            put 1 1 = 1
            move 0 0 0 = 0
            move 1 0 0 = 1
            clear 1 = true
            """ + Script.many(75, "key $\nput 0 $ = 1") + """
            span 1 = 0
            """ + Script.many(75, "key $\nput 0 $ = 1") + """
            move 0 1 0 = 150
            move 0 1 1 = 150
            move 1 0 0 = 0
            move 0 3 0 = 150
            move 0 3 0 = NO
            move 0 0 0 = 150
            told 1 = 150
            told 6 = 150
            value 0 = 74
            """);
        Script.run("25: one of 150 does not fit, the last", Script.full() + """
            snapshot = 0
            put 0 1001 = 0
            told 4 = 1
            move 0 0 1 = NO
            move 0 1 1 = NO
            told 4 = 1
            put 0 1000 = 0
            move 0 0 1 = 19
            """);
        Script.run("25: what a list of ten becomes", """
            state 1 1 0 = 0
            key 1
            """ + Script.many(10, "add 0 -$ = $+1") + """
            snapshot = 0
            move 0 3 0 = 1
            value 0 = -45
            size 0 = 10
            told 6 = 1
            restore 0 = 1
            move 0 3 1 = 1
            value 0 = -9
            restore 0 = 1
            move 0 3 2 = 1
            value 0 = 0
            size 0 = 10
            """);
    }

    private static void promise26Of() {
        Script.run("26: also another what", """
            of 0 0 = index!
            state intmin 3 2 = 0
            of 0 -1 = index!
            of 0 0 = intmin
            of 0 1 = 3
            of 0 2 = 2
            of 0 3 = index!
            of 0 intmin = index!
            of 0 intmax = index!
            of 1 0 = index!
            of -1 0 = index!
            state -1 0 0 = 1
            of 1 0 = -1
            of 1 1 = 0
            of 2 1 = index!
            """);
    }

    private static void promise27Told() {
        Script.run("27: BAD: another what", """
            told -1 = BAD
            told 0 = 0
            told 6 = 0
            told 7 = BAD
            told 8 = BAD
            told intmin = BAD
            told intmax = BAD
            """);
        Script.run("27: as much as can be there", Script.full() + Script.many(6, "snapshot = $") + """
            told 0 = 8
            told 1 = 150
            told 2 = 6
            told 3 = 16
            told 4 = 0
            told 5 = 16
            told 6 = 150
            clearSpan = 150
            told 0 = 8
            told 1 = 0
            told 2 = 6
            told 3 = 0
            told 4 = 16
            told 5 = 0
            told 6 = 0
            """);
        Script.run("27: 6 numbers of all ENTRIES together (FOLD: one each)", FOUR_KINDS + """
            key 1
            """ + Script.many(10, "add 1 $ = $+1\nset 2 $ $ = 1\nfold 3 $ = $+1") + """
            put 0 1 = 1
            told 6 = 22
            move 1 3 0 = 1
            told 6 = 13
            remove 2 0 = true
            told 6 = 12
            move 3 0 0 = 1
            told 6 = 12
            """);
    }

    private static void objectOf512Calls() {
        Script.run("an object is used for at most 512 calls: the 512th still counts", """
            state 1 3 0 = 0
            key 1
            """ + Script.many(509, "fold 0 1 = $+1") + """
            value 0 = 509
            """);
        Script.run("an object is used for at most 512 calls: a page copied as often as can be", """
            state 1 0 0 = 0
            key 1
            """ + Script.many(127, "snapshot = $\nput 0 $ = N\ntold 4 = $+1\ndrop $ = 0").replaceFirst("= N", "= 1")
                .replace("= N", "= 0"));
    }
}
