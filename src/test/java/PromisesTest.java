/**
 * One method a promise: ordinary inputs, the edges of the document, wrong inputs in the document's order.
 * For small keys the page of an entry is (key - span + state) modulo 16.
 */
public final class PromisesTest {
    public static void main(String[] args) {
        promise1NewObject();
        promise2State();
        promise3To5AtHand();
        promise6Put();
        promise7Value();
        promise8Add();
        promise9Item();
        promise10Set();
        promise11Get();
        promise12Member();
        promise13Remove();
        promise14Fold();
        promise15Size();
        promise16Clear();
        promise17ClearSpan();
        promise18And19Keys();
        promise20Snapshot();
        promise21Drop();
        promise22Ask();
        promise23Entries();
        promise24Restore();
        promise25Move();
        promise25MoveAndPages();
        promise26Of();
        promise27Told();
        pages();
        Script.finish();
    }

    private static void promise1NewObject() {
        Script.run("1 a new object", """
            told 0 = 0
            told 1 = 0
            told 2 = 0
            told 3 = 0
            told 4 = 0
            told 5 = 0
            told 6 = 0
            of 0 0 = index!
            size 0 = index!
            leave = false
            span 0 = 0
            clearSpan = 0
            drop 0 = index!
            restore 0 = index!
            """);
    }

    private static void promise2State() {
        Script.run("2 state", """
            state 5 0 0 = 0
            state -5 1 1 = 1
            state intmax 2 2 = 2
            state intmin 3 0 = 3
            state 5 0 0 = 0
            state intmin 3 0 = 3
            state 5 0 1 = NO
            state 5 1 0 = NO
            state 5 4 0 = BAD
            state 5 -1 0 = BAD
            state 5 0 3 = BAD
            state 5 0 -1 = BAD
            state 6 4 0 = BAD
            state 6 intmin intmax = BAD
            told 0 = 4
            state 0 3 2 = 4
            state 1 3 1 = 5
            state 2 0 2 = 6
            state 3 0 1 = 7
            state 4 0 0 = FULL
            state 4 4 0 = BAD
            state 4 0 3 = BAD
            state 5 0 0 = 0
            state 3 0 0 = NO
            state 3 0 1 = 7
            told 0 = 8
            """);
        Script.run("2 state of a name that was moved", """
            state 5 0 0 = 0
            move 0 1 2 = 0
            state 5 0 0 = NO
            state 5 1 2 = 0
            """);
    }

    private static void promise3To5AtHand() {
        Script.run("3 key, 4 leave", """
            state 1 0 0 = 0
            leave = false
            key 7
            put 0 70 = 1
            key 8
            size 0 = 0
            put 0 80 = 1
            key 7
            value 0 = 70
            leave = true
            leave = false
            value 0 = state!
            key min
            put 0 1 = 1
            key max
            put 0 2 = 1
            key -1
            put 0 3 = 1
            key 0
            size 0 = 0
            key 0
            leave = true
            key min
            value 0 = 1
            key max
            value 0 = 2
            key -1
            value 0 = 3
            # keys that are the same in the lower 32 bits, or in both halves' xor, are others
            key 4294967303
            size 0 = 0
            key 30064771072
            size 0 = 0
            """);
        Script.run("5 span", """
            state 1 0 0 = 0
            span 3 = 0
            span intmin = 3
            span intmax = intmin
            span -1 = intmax
            span 0 = -1
            key 1
            put 0 10 = 1
            span 1 = 0
            size 0 = 0
            put 0 11 = 1
            span intmin = 1
            put 0 12 = 1
            leave = true
            span 0 = intmin
            key 1
            value 0 = 10
            span 1 = 0
            value 0 = 11
            span intmin = 1
            value 0 = 12
            """);
    }

    private static void promise6Put() {
        Script.run("6 put", """
            state 1 0 0 = 0
            state 2 0 1 = 1
            state 3 0 2 = 2
            state 4 1 0 = 3
            state 5 2 0 = 4
            state 6 3 0 = 5
            put 0 1 = state!
            put 1 1001 = argument!
            put 3 1 = argument!
            put 6 1 = index!
            put -1 1 = index!
            put intmin 1 = index!
            key 1
            put 0 min = 1
            put 0 min = 0
            put 0 max = 0
            value 0 = max
            put 1 1000 = 1
            put 1 1001 = argument!
            put 1 -1001 = argument!
            put 1 max = argument!
            put 1 min = argument!
            put 1 -1000 = 0
            value 1 = -1000
            put 2 0 = 1
            put 2 -1 = argument!
            put 2 min = argument!
            put 2 max = 0
            value 2 = max
            put 3 1 = argument!
            put 4 1 = argument!
            put 5 1 = argument!
            put 6 1 = index!
            put 8 1 = index!
            put intmax 1 = index!
            told 1 = 3
            told 6 = 3
            """);
        Script.run("6 put, 150 entries", """
            state 1 0 1 = 0
            state 2 0 0 = 1
            """ + Script.many(75, "key $\nput 0 $ = 1\nput 1 -$ = 1") + """
            told 1 = 150
            key 75
            put 0 1 = FULL
            put 0 1001 = argument!
            span 1 = 0
            put 1 1 = FULL
            span 0 = 1
            key 74
            put 0 -74 = 0
            value 0 = -74
            clear 1 = true
            put 1 5 = 1
            key 75
            put 1 5 = FULL
            leave = true
            put 1 5 = state!
            """);
    }

    private static void promise7Value() {
        Script.run("7 value", """
            state 1 0 0 = 0
            state 2 3 0 = 1
            state 3 1 0 = 2
            state 4 2 0 = 3
            value 4 = index!
            value -1 = index!
            value 2 = argument!
            value 3 = argument!
            value 0 = state!
            value 1 = state!
            key 1
            value 0 = none!
            value 1 = none!
            value 2 = argument!
            value 4 = index!
            put 0 -7 = 1
            fold 1 8 = 1
            value 0 = -7
            value 1 = 8
            key 2
            value 0 = none!
            key 1
            span 1 = 0
            value 0 = none!
            span 0 = 1
            value 0 = -7
            """);
    }

    private static void promise8Add() {
        Script.run("8 add", """
            state 1 1 0 = 0
            state 2 1 1 = 1
            state 3 1 2 = 2
            state 4 0 0 = 3
            state 5 2 0 = 4
            state 6 3 0 = 5
            add 6 0 = index!
            add -1 0 = index!
            add 3 0 = argument!
            add 1 1001 = argument!
            add 0 0 = state!
            key 1
            add 0 min = 1
            add 0 max = 2
            add 0 max = 3
            item 0 0 = min
            item 0 1 = max
            add 1 1000 = 1
            add 1 -1000 = 2
            add 1 1001 = argument!
            add 1 -1001 = argument!
            add 2 0 = 1
            add 2 max = 2
            add 2 -1 = argument!
            add 3 0 = argument!
            add 4 0 = argument!
            add 5 0 = argument!
            add 6 0 = index!
            size 1 = 2
            told 1 = 3
            told 6 = 7
            """);
        Script.run("8 add, 10 numbers", """
            state 1 1 1 = 0
            key 1
            """ + Script.many(10, "add 0 $ = $+1") + """
            add 0 10 = FULL
            add 0 1001 = argument!
            size 0 = 10
            item 0 9 = 9
            key 2
            add 0 5 = 1
            key 1
            clear 0 = true
            add 0 7 = 1
            """);
        Script.run("8 add, 150 entries", """
            state 1 1 0 = 0
            """ + Script.many(150, "key $\nadd 0 $ = 1") + """
            key 150
            add 0 1 = FULL
            key 149
            add 0 1 = 2
            told 1 = 150
            told 6 = 151
            """);
    }

    private static void promise9Item() {
        Script.run("9 item", """
            state 1 1 0 = 0
            state 2 2 0 = 1
            state 3 0 0 = 2
            state 4 3 0 = 3
            item 4 0 = index!
            item -1 0 = index!
            item 2 0 = argument!
            item 2 -1 = argument!
            item 3 0 = argument!
            item 0 0 = state!
            item 0 -1 = state!
            item 1 99 = state!
            key 1
            item 0 0 = index!
            item 1 0 = index!
            add 0 30 = 1
            add 0 10 = 2
            add 0 20 = 3
            item 0 0 = 30
            item 0 1 = 10
            item 0 2 = 20
            item 0 3 = index!
            item 0 -1 = index!
            item 0 intmin = index!
            item 0 intmax = index!
            set 1 5 50 = 1
            set 1 -5 99 = 1
            set 1 max 1 = 1
            set 1 min 2 = 1
            item 1 0 = 2
            item 1 1 = 99
            item 1 2 = 50
            item 1 3 = 1
            item 1 4 = index!
            item 1 -1 = index!
            put 2 1 = 1
            item 2 0 = argument!
            fold 3 1 = 1
            item 3 0 = argument!
            item 4 0 = index!
            """);
    }

    private static void promise10Set() {
        Script.run("10 set", """
            state 1 2 0 = 0
            state 2 2 1 = 1
            state 3 2 2 = 2
            state 4 0 0 = 3
            state 5 1 0 = 4
            state 6 3 0 = 5
            set 6 1 1 = index!
            set -1 1 1 = index!
            set 3 1 1 = argument!
            set 1 1 1001 = argument!
            set 0 1 1 = state!
            key 1
            set 0 max min = 1
            set 0 min max = 1
            set 0 max min = 0
            set 0 max 5 = 0
            get 0 max = 5
            size 0 = 2
            # what must fit is the number, not the member
            set 1 2000 1000 = 1
            set 1 2001 1001 = argument!
            set 1 2000 -1001 = argument!
            set 1 2000 -1000 = 0
            set 2 -7 0 = 1
            set 2 -7 -1 = argument!
            set 2 -8 -1 = argument!
            get 2 -7 = 0
            set 3 1 1 = argument!
            set 4 1 1 = argument!
            set 5 1 1 = argument!
            set 6 1 1 = index!
            told 1 = 3
            told 6 = 4
            """);
        Script.run("10 set, 10 members", """
            state 1 2 1 = 0
            key 1
            """ + Script.many(10, "set 0 -$ $ = 1") + """
            set 0 1 1 = FULL
            set 0 -10 1 = FULL
            set 0 1 1001 = argument!
            set 0 -9 100 = 0
            set 0 0 100 = 0
            member 0 0 = -9
            item 0 0 = 100
            item 0 9 = 100
            remove 0 -5 = true
            set 0 1 11 = 1
            item 0 9 = 11
            set 0 -5 5 = FULL
            """);
        Script.run("10 set, 150 entries", """
            state 1 2 0 = 0
            """ + Script.many(150, "key $\nset 0 $ $ = 1") + """
            key 150
            set 0 1 1 = FULL
            key 149
            set 0 1 1 = 1
            set 0 149 2 = 0
            told 1 = 150
            told 6 = 151
            """);
    }

    private static void promise11Get() {
        Script.run("11 get", """
            state 1 2 0 = 0
            state 2 1 0 = 1
            get 2 1 = index!
            get -1 1 = index!
            get 1 1 = argument!
            get 0 1 = state!
            key 1
            get 0 1 = none!
            get 1 1 = argument!
            get 2 1 = index!
            set 0 1 10 = 1
            set 0 -1 -10 = 1
            set 0 min 5 = 1
            get 0 1 = 10
            get 0 -1 = -10
            get 0 min = 5
            get 0 0 = none!
            get 0 2 = none!
            get 0 max = none!
            remove 0 1 = true
            get 0 1 = none!
            get 0 -1 = -10
            key 2
            get 0 -1 = none!
            """);
    }

    private static void promise12Member() {
        Script.run("12 member", """
            state 1 2 0 = 0
            state 2 1 0 = 1
            member 2 0 = index!
            member -1 0 = index!
            member 1 0 = argument!
            member 1 -1 = argument!
            member 0 0 = state!
            member 0 -1 = state!
            key 1
            member 0 0 = index!
            set 0 3 1 = 1
            set 0 max 1 = 1
            set 0 -3 1 = 1
            set 0 0 1 = 1
            set 0 min 1 = 1
            set 0 3 2 = 0
            member 0 0 = min
            member 0 1 = -3
            member 0 2 = 0
            member 0 3 = 3
            member 0 4 = max
            member 0 5 = index!
            member 0 -1 = index!
            member 0 intmin = index!
            member 0 intmax = index!
            add 1 5 = 1
            member 1 0 = argument!
            """);
    }

    private static void promise13Remove() {
        Script.run("13 remove of other kinds", """
            state 1 0 0 = 0
            state 2 1 0 = 1
            state 3 3 0 = 2
            key 1
            put 0 1 = 1
            add 1 1 = 1
            fold 2 1 = 1
            remove 0 1 = argument!
            remove 1 1 = argument!
            remove 2 1 = argument!
            """);
        Script.run("13 remove from the last of 150 entries", """
            state 1 2 0 = 0
            """ + Script.many(150, "key $\nset 0 1 $ = 1") + Script.many(9, "set 0 -$ $ = 1") + """
            set 0 99 99 = FULL
            remove 0 1 = true
            remove 0 -8 = true
            item 0 0 = 7
            item 0 7 = 0
            size 0 = 8
            clear 0 = true
            told 1 = 149
            """);
        Script.run("13 remove", """
            state 1 2 0 = 0
            state 2 0 0 = 1
            remove 2 1 = index!
            remove -1 1 = index!
            remove 1 1 = argument!
            remove 0 1 = state!
            key 1
            remove 0 1 = false
            set 0 1 10 = 1
            set 0 2 20 = 1
            set 0 3 30 = 1
            remove 0 4 = false
            remove 0 0 = false
            remove 0 2 = true
            remove 0 2 = false
            size 0 = 2
            item 0 0 = 10
            item 0 1 = 30
            item 0 2 = index!
            remove 0 3 = true
            member 0 0 = 1
            told 1 = 1
            remove 0 1 = true
            told 1 = 0
            size 0 = 0
            keys 0 = 0
            remove 0 1 = false
            set 0 9 90 = 1
            member 0 0 = 9
            size 0 = 1
            """);
        Script.run("13 remove and pages", """
            state 1 2 0 = 0
            key 1
            set 0 1 10 = 1
            set 0 2 20 = 1
            snapshot = 0
            remove 0 3 = false
            told 4 = 0
            remove 0 1 = true
            told 4 = 1
            told 3 = 15
            remove 0 2 = true
            told 4 = 1
            entries 0 0 = 1
            ask 0 0 1 0 1 = 20
            restore 0 = 1
            size 0 = 2
            remove 0 2 = true
            told 4 = 2
            item 0 0 = 10
            snapshot = 1
            remove 0 1 = true
            told 4 = 3
            told 1 = 0
            """);
    }

    private static void promise14Fold() {
        Script.run("14 fold", """
            state 1 3 0 = 0
            state 2 3 1 = 1
            state 3 3 2 = 2
            state 4 0 0 = 3
            state 5 1 0 = 4
            state 6 2 0 = 5
            fold 6 1 = index!
            fold -1 1 = index!
            fold 3 1 = argument!
            fold 4 1 = argument!
            fold 5 1 = argument!
            fold 0 1 = state!
            key 1
            fold 0 max = 1
            fold 0 max = 2
            value 0 = -2
            fold 0 min = 3
            value 0 = 9223372036854775806
            fold 1 5 = 1
            value 1 = 5
            fold 1 6 = 2
            value 1 = 5
            fold 1 min = 3
            value 1 = min
            fold 1 max = 4
            value 1 = min
            fold 2 -5 = 1
            value 2 = -5
            fold 2 -6 = 2
            value 2 = -5
            fold 2 max = 3
            value 2 = max
            fold 2 min = 4
            value 2 = max
            size 2 = 4
            told 1 = 3
            told 6 = 3
            clear 2 = true
            fold 2 -9 = 1
            value 2 = -9
            fold 3 1 = argument!
            fold 6 1 = index!
            """);
        Script.run("14 fold, more than 10", """
            state 1 3 0 = 0
            key 1
            """ + Script.many(40, "fold 0 $ = $+1") + """
            value 0 = 780
            size 0 = 40
            told 6 = 1
            """);
        Script.run("14 fold, 150 entries", """
            state 1 3 2 = 0
            """ + Script.many(150, "key -$\nfold 0 $ = 1") + """
            key 150
            fold 0 1 = FULL
            key -149
            fold 0 1 = 2
            value 0 = 149
            """);
    }

    private static void promise15Size() {
        Script.run("15 size", """
            state 1 0 0 = 0
            state 2 1 0 = 1
            state 3 2 0 = 2
            state 4 3 0 = 3
            size 4 = index!
            size -1 = index!
            size intmax = index!
            size 0 = state!
            key 1
            size 0 = 0
            size 1 = 0
            size 2 = 0
            size 3 = 0
            put 0 5 = 1
            put 0 6 = 0
            add 1 5 = 1
            add 1 5 = 2
            set 2 1 1 = 1
            set 2 2 1 = 1
            set 2 3 1 = 1
            fold 3 1 = 1
            fold 3 1 = 2
            fold 3 1 = 3
            fold 3 1 = 4
            size 0 = 1
            size 1 = 2
            size 2 = 3
            size 3 = 4
            size 4 = index!
            leave = true
            size 3 = state!
            """);
    }

    private static void promise16Clear() {
        Script.run("16 clear", """
            state 1 0 0 = 0
            state 2 1 0 = 1
            clear 2 = index!
            clear -1 = index!
            clear 0 = state!
            key 1
            clear 0 = false
            put 0 5 = 1
            add 1 6 = 1
            add 1 7 = 2
            key 2
            put 0 8 = 1
            clear 1 = false
            key 1
            span 1 = 0
            clear 0 = false
            span 0 = 1
            clear 0 = true
            clear 0 = false
            size 0 = 0
            size 1 = 2
            clear 1 = true
            told 1 = 1
            told 6 = 1
            key 2
            value 0 = 8
            leave = true
            clear 0 = state!
            """);
        Script.run("16 clear and pages", """
            state 1 0 0 = 0
            key 1
            put 0 5 = 1
            snapshot = 0
            key 17
            clear 0 = false
            told 4 = 0
            key 1
            clear 0 = true
            told 4 = 1
            told 3 = 15
            clear 0 = false
            told 4 = 1
            ask 0 0 1 0 0 = 5
            ask -1 0 1 0 0 = none!
            """);
    }

    private static void promise17ClearSpan() {
        Script.run("17 clearSpan", """
            state 1 0 0 = 0
            state 2 1 0 = 1
            state 3 2 0 = 2
            state 4 3 0 = 3
            clearSpan = 0
            key 1
            put 0 1 = 1
            add 1 1 = 1
            set 2 1 1 = 1
            fold 3 1 = 1
            key 2
            put 0 2 = 1
            span 5 = 0
            put 0 3 = 1
            fold 3 3 = 1
            leave = true
            span -5 = 5
            clearSpan = 0
            span 0 = -5
            clearSpan = 5
            clearSpan = 0
            told 1 = 2
            span 5 = 0
            key 2
            value 0 = 3
            value 3 = 3
            clearSpan = 2
            told 1 = 0
            told 5 = 0
            told 6 = 0
            leave = true
            """);
        Script.run("17 clearSpan and pages", """
            state 1 0 0 = 0
            key 1
            put 0 1 = 1
            key 17
            put 0 17 = 1
            key 2
            put 0 2 = 1
            span 1 = 0
            put 0 3 = 1
            key 9
            put 0 4 = 1
            snapshot = 0
            span 7 = 1
            clearSpan = 0
            told 4 = 0
            span 0 = 7
            clearSpan = 3
            told 4 = 2          # pages 1 and 2, each once
            told 3 = 14
            told 5 = 2          # pages 1 (key 2, span 1) and 8
            entries 0 0 = 5
            restore 0 = 5
            told 1 = 5
            """);
        Script.run("17 clearSpan, 150 entries", """
            state 1 0 0 = 0
            """ + Script.many(150, "key $\nput 0 $ = 1") + """
            clearSpan = 150
            told 1 = 0
            put 0 1 = 1
            keyAt 0 0 = 149
            """);
    }

    private static void promise18And19Keys() {
        Script.run("18 keys, 19 keyAt", """
            state 1 0 0 = 0
            state 2 3 0 = 1
            keys 2 = index!
            keys -1 = index!
            keyAt 2 0 = index!
            keyAt -1 0 = index!
            keys 0 = 0
            keyAt 0 0 = index!
            key 5
            put 0 1 = 1
            key -5
            put 0 1 = 1
            key max
            put 0 1 = 1
            key min
            put 0 1 = 1
            key 0
            put 0 1 = 1
            put 0 2 = 0
            fold 1 1 = 1
            span 2 = 0
            keys 0 = 0
            key 77
            put 0 1 = 1
            key 76
            fold 1 1 = 1
            keys 0 = 1
            keyAt 0 0 = 77
            keyAt 1 0 = 76
            leave = true
            span 0 = 2
            keys 0 = 5
            keyAt 0 0 = min
            keyAt 0 1 = -5
            keyAt 0 2 = 0
            keyAt 0 3 = 5
            keyAt 0 4 = max
            keyAt 0 5 = index!
            keyAt 0 -1 = index!
            keyAt 0 intmin = index!
            keyAt 0 intmax = index!
            keys 1 = 1
            keyAt 1 0 = 0
            keyAt 1 1 = index!
            key 0
            clear 0 = true
            keys 0 = 4
            keyAt 0 2 = 5
            """);
    }

    private static void promise20Snapshot() {
        Script.run("20 snapshot", """
            snapshot = 0
            told 2 = 1
            told 3 = 16
            drop 0 = 0
            snapshot = 1
            snapshot = 2
            snapshot = 3
            snapshot = 4
            snapshot = 5
            snapshot = 6
            told 2 = 6
            snapshot = FULL
            snapshot = FULL
            drop 4 = 16
            told 2 = 5
            snapshot = 7
            snapshot = FULL
            drop 0 = index!
            drop 4 = index!
            drop 8 = index!
            """);
        Script.run("20 a snapshot keeps what it has", """
            state 1 0 0 = 0
            state 2 1 0 = 1
            state 3 2 0 = 2
            state 4 3 0 = 3
            key 3
            put 0 1 = 1
            add 1 1 = 1
            add 1 2 = 2
            set 2 5 50 = 1
            set 2 4 40 = 1
            fold 3 7 = 1
            snapshot = 0
            put 0 2 = 0
            add 1 3 = 3
            set 2 3 30 = 1
            set 2 4 41 = 0
            fold 3 8 = 2
            snapshot = 1
            clearSpan = 4
            ask 0 0 3 0 0 = 1
            ask 0 1 3 0 1 = 2
            ask 0 1 3 0 2 = none!
            ask 0 2 3 0 0 = 40
            ask 0 2 3 0 1 = 50
            ask 0 2 3 0 2 = none!
            ask 0 3 3 0 0 = 7
            ask 1 0 3 0 0 = 2
            ask 1 1 3 0 2 = 3
            ask 1 2 3 0 0 = 30
            ask 1 2 3 0 1 = 41
            ask 1 3 3 0 0 = 15
            ask -1 0 3 0 0 = none!
            restore 0 = 4
            size 3 = 1
            get 2 4 = 40
            restore 1 = 4
            size 3 = 2
            get 2 4 = 41
            """);
    }

    private static void promise21Drop() {
        Script.run("21 drop", """
            state 1 0 0 = 0
            drop 0 = index!
            drop -1 = index!
            key 1
            put 0 1 = 1
            snapshot = 0
            key 2
            put 0 2 = 1
            told 3 = 15
            snapshot = 1
            told 3 = 16
            key 3
            put 0 3 = 1
            told 3 = 15
            drop -1 = index!
            drop 2 = index!
            drop intmin = index!
            drop intmax = index!
            drop 1 = 14
            told 3 = 14
            ask 1 0 1 0 0 = index!
            entries 1 0 = index!
            restore 1 = index!
            drop 1 = index!
            told 2 = 1
            # pages 2 and 3 are not shared any more: nothing to copy
            told 4 = 2
            put 0 33 = 0
            key 2
            put 0 22 = 0
            told 4 = 2
            key 4
            put 0 4 = 1
            told 4 = 3
            drop 0 = 0
            key 5
            put 0 5 = 1
            told 4 = 3
            told 2 = 0
            drop 0 = index!
            """);
    }

    private static void promise22Ask() {
        Script.run("22 ask", """
            state 1 0 0 = 0
            state 2 1 0 = 1
            state 3 2 0 = 2
            state 4 3 0 = 3
            ask -1 4 1 0 0 = index!
            ask -1 -1 1 0 0 = index!
            ask 0 0 1 0 0 = index!
            ask -2 0 1 0 0 = index!
            ask intmin 0 1 0 0 = index!
            ask -1 0 1 0 0 = none!
            key -1
            span -2 = 0
            put 0 10 = 1
            add 1 30 = 1
            add 1 20 = 2
            set 2 9 90 = 1
            set 2 -9 91 = 1
            fold 3 5 = 1
            fold 3 6 = 2
            leave = true
            span 0 = -2
            ask -1 0 -1 -2 0 = 10
            ask -1 0 -1 -2 1 = none!
            ask -1 0 -1 -2 -1 = none!
            ask -1 1 -1 -2 0 = 30
            ask -1 1 -1 -2 1 = 20
            ask -1 1 -1 -2 2 = none!
            ask -1 1 -1 -2 intmin = none!
            ask -1 1 -1 -2 intmax = none!
            ask -1 2 -1 -2 0 = 91
            ask -1 2 -1 -2 1 = 90
            ask -1 2 -1 -2 2 = none!
            ask -1 3 -1 -2 0 = 11
            ask -1 3 -1 -2 1 = none!
            ask -1 0 -1 0 0 = none!
            ask -1 0 1 -2 0 = none!
            snapshot = 0
            state 5 0 0 = 4
            ask 0 4 -1 -2 0 = none!
            ask 0 5 -1 -2 0 = index!
            ask 1 0 -1 -2 0 = index!
            # a snapshot has the kind of then: a fold that has become a value, a list that has become a fold
            move 3 0 0 = 1
            move 1 3 2 = 1
            ask 0 3 -1 -2 0 = 11
            ask 0 3 -1 -2 1 = none!
            ask 0 1 -1 -2 0 = 30
            ask 0 1 -1 -2 1 = 20
            ask -1 1 -1 -2 0 = 30
            ask -1 1 -1 -2 1 = none!
            drop 0 = 0
            ask 0 0 -1 -2 0 = index!
            """);
    }

    private static void promise23Entries() {
        Script.run("23 entries", """
            entries -1 0 = index!
            state 1 0 0 = 0
            state 2 1 0 = 1
            entries -1 0 = 0
            entries -2 0 = index!
            entries 0 0 = index!
            entries -1 2 = index!
            entries -1 -1 = index!
            key 1
            put 0 1 = 1
            span 1 = 0
            put 0 1 = 1
            add 1 1 = 1
            add 1 2 = 2
            leave = true
            entries -1 0 = 2
            entries -1 1 = 1
            snapshot = 0
            state 3 3 0 = 2
            clearSpan = 2
            entries -1 0 = 1
            entries -1 1 = 0
            entries 0 0 = 2
            entries 0 1 = 1
            entries 0 2 = 0
            entries 0 3 = index!
            entries 1 0 = index!
            """);
    }

    private static void promise24Restore() {
        Script.run("24 restore", """
            restore 0 = index!
            restore -1 = index!
            state 1 0 1 = 0
            state 2 1 0 = 1
            key 1
            put 0 10 = 1
            add 1 1 = 1
            add 1 2 = 2
            snapshot = 0
            clear 0 = true
            move 0 1 2 = 0
            move 1 3 0 = 1
            state 3 3 1 = 2
            fold 2 5 = 1
            key 8
            add 0 5 = 1
            span 4 = 0
            snapshot = 1
            restore 0 = 2
            restore -1 = index!
            restore 2 = index!
            told 0 = 3
            told 1 = 2
            told 2 = 2
            told 3 = 16
            of 0 1 = 0
            of 0 2 = 1
            of 1 1 = 1
            of 1 2 = 0
            of 2 0 = 3
            of 2 1 = 3
            of 2 2 = 1
            entries -1 2 = 0
            # what is at hand stays
            span 0 = 4
            size 0 = 0
            key 1
            value 0 = 10
            put 0 1001 = argument!
            item 1 1 = 2
            size 2 = 0
            state 3 3 1 = 2
            state 1 1 2 = NO
            state 1 0 1 = 0
            # and back to the later one
            restore 1 = 3
            of 0 1 = 1
            of 0 2 = 2
            of 1 1 = 3
            value 1 = 3
            value 2 = 5
            ask -1 0 8 0 0 = 5
            leave = true
            restore 0 = 2
            value 0 = state!
            leave = false
            """);
        Script.run("24 restore keeps the kinds of states told later as they are", """
            state 1 0 0 = 0
            snapshot = 0
            state 2 0 0 = 1
            key 1
            put 1 1 = 1
            move 1 1 2 = 1
            restore 0 = 0
            of 1 0 = 2
            of 1 1 = 1
            of 1 2 = 2
            size 1 = 0
            add 1 5 = 1
            """);
        Script.run("24 restore shares all pages", """
            state 1 0 0 = 0
            key 1
            put 0 1 = 1
            snapshot = 0
            put 0 2 = 0
            key 2
            put 0 2 = 1
            told 3 = 14
            told 4 = 2
            restore 0 = 1
            told 3 = 16
            told 4 = 2
            restore 0 = 1
            put 0 5 = 1
            told 4 = 3
            told 3 = 15
            key 1
            put 0 6 = 0
            told 4 = 4
            ask 0 0 1 0 0 = 1
            entries 0 0 = 1
            restore 0 = 1
            drop 0 = 0
            value 0 = 1
            put 0 7 = 0
            told 4 = 4
            """);
        Script.run("24 restore with two snapshots", """
            state 1 0 0 = 0
            snapshot = 0
            key 1
            put 0 1 = 1
            snapshot = 1
            key 2
            put 0 2 = 1
            told 3 = 15
            # pages 0 to 15 are those of snapshot 0; all but page 1 are those of snapshot 1, too
            restore 0 = 0
            told 3 = 16
            drop 0 = 15
            key 1
            put 0 3 = 1
            told 4 = 2
            key 2
            put 0 4 = 1
            told 4 = 3
            ask 1 0 1 0 0 = 1
            ask 1 0 2 0 0 = none!
            """);
        Script.run("24 restore when 150 were there", """
            state 1 0 0 = 0
            snapshot = 0
            """ + Script.many(150, "key $\nput 0 $ = 1") + """
            snapshot = 1
            restore 0 = 0
            key 200
            put 0 1 = 1
            restore 1 = 150
            put 0 1 = FULL
            """);
    }

    private static void promise25Move() {
        Script.run("25 move, wrong inputs", """
            move 0 0 0 = index!
            state 1 0 0 = 0
            move 1 0 0 = index!
            move -1 9 9 = index!
            move 0 4 0 = BAD
            move 0 -1 0 = BAD
            move 0 0 3 = BAD
            move 0 0 -1 = BAD
            move 0 2 3 = BAD
            """);
        // with no entries there is nothing that would not fit, but the ways are the same
        String[] kinds = {"VALUE", "LIST", "MAP", "FOLD"};
        String ways = "1101 0101 0110 1000";
        for (int from = 0; from < 4; from++) {
            for (int to = 0; to < 4; to++) {
                boolean leads = ways.split(" ")[from].charAt(to) == '1';
                Script.run("25 move " + kinds[from] + " to " + kinds[to],
                        "state 1 " + from + " 1 = 0\nmove 0 " + to + " 2 = " + (leads ? "0" : "NO")
                        + "\nof 0 1 = " + (leads ? to : from) + "\nof 0 2 = " + (leads ? 2 : 1)
                        + "\nmove 0 " + (leads ? to : from) + " 3 = BAD");
            }
        }
        Script.run("25 move a value", """
            state 1 0 0 = 0
            key 1
            put 0 -1 = 1
            span 1 = 0
            put 0 1001 = 1
            key 2
            put 0 5 = 1
            leave = true
            move 0 0 1 = NO
            move 0 0 2 = NO
            move 0 1 1 = NO
            move 0 1 2 = NO
            move 0 2 0 = NO
            of 0 2 = 0
            move 0 0 0 = 3
            move 0 1 0 = 3
            key 2
            item 0 0 = 5
            item 0 1 = index!
            add 0 6 = 2
            move 0 0 0 = NO
            move 0 3 0 = 3
            value 0 = 11
            size 0 = 2
            key 1
            value 0 = 1001
            size 0 = 1
            """);
        Script.run("25 move a value to a fold and back", """
            state 1 0 2 = 0
            key 1
            put 0 7 = 1
            move 0 3 1 = 1
            value 0 = 7
            size 0 = 1
            fold 0 -2000 = 2
            fold 0 9 = 3
            value 0 = -2000
            told 6 = 1
            move 0 0 1 = NO
            move 0 0 2 = NO
            move 0 3 1 = NO
            move 0 3 0 = NO
            move 0 1 0 = NO
            move 0 2 0 = NO
            move 0 0 0 = 1
            size 0 = 1
            value 0 = -2000
            put 0 1 = 0
            """);
        Script.run("25 move a list", """
            state 1 1 0 = 0
            state 2 1 0 = 1
            state 3 1 0 = 2
            key 1
            add 0 max = 1
            add 0 max = 2
            add 0 3 = 3
            add 1 5 = 1
            add 1 -1001 = 2
            add 1 7 = 3
            add 2 -5 = 1
            add 2 1000 = 2
            add 2 -6 = 3
            move 0 1 1 = NO
            move 0 1 2 = 1
            move 1 1 1 = NO
            move 1 1 2 = NO
            move 2 1 2 = NO
            move 2 1 1 = 1
            item 2 0 = -5
            item 2 1 = 1000
            item 2 2 = -6
            move 2 0 0 = NO
            move 2 2 0 = NO
            told 6 = 9
            move 0 3 0 = 1
            value 0 = 1
            size 0 = 3
            move 1 3 1 = 1
            value 1 = -1001
            size 1 = 3
            move 2 3 2 = 1
            value 2 = 1000
            size 2 = 3
            told 6 = 3
            fold 2 1001 = 4
            value 2 = 1001
            """);
        Script.run("25 move a map", """
            state 1 2 0 = 0
            key 1
            set 0 5 -50 = 1
            set 0 -5 2000 = 1
            set 0 0 7 = 1
            key 2
            set 0 1 1 = 1
            move 0 2 1 = NO
            move 0 2 2 = NO
            move 0 1 1 = NO
            move 0 1 2 = NO
            move 0 0 0 = NO
            move 0 3 0 = NO
            move 0 2 0 = 2
            key 1
            member 0 1 = 0
            set 0 -5 20 = 0
            move 0 2 1 = 2
            set 0 5 1001 = argument!
            move 0 1 1 = 2
            item 0 0 = 20
            item 0 1 = 7
            item 0 2 = -50
            item 0 3 = index!
            size 0 = 3
            add 0 8 = 4
            get 0 5 = argument!
            move 0 2 1 = NO
            """);
        Script.run("25 what is gone need not fit and is not folded", """
            state 1 0 0 = 0
            state 2 2 0 = 1
            key 1
            put 0 5 = 1
            set 1 1 1 = 1
            set 1 2 -2000 = 1
            remove 1 2 = true
            key 2
            put 0 -2000 = 1
            set 1 2 -2000 = 1
            clear 0 = true
            clear 1 = true
            move 0 0 2 = 1
            move 0 1 1 = 1
            move 1 2 2 = 1
            move 1 1 1 = 1
            move 1 3 0 = 1
            key 1
            value 1 = 1
            size 1 = 1
            """);
        Script.run("25 a state's move leaves the others", """
            state 1 1 0 = 0
            state 2 1 0 = 1
            key 1
            add 0 1 = 1
            add 0 2 = 2
            add 1 3 = 1
            add 1 4 = 2
            move 0 3 0 = 1
            of 1 1 = 1
            item 1 1 = 4
            size 1 = 2
            """);
    }

    private static void promise25MoveAndPages() {
        Script.run("25 move and pages", """
            state 1 0 0 = 0
            state 2 0 0 = 1
            key 1
            put 0 1 = 1
            key 17
            put 0 17 = 1
            key 2
            put 0 2 = 1
            key 5
            put 1 2000 = 1
            snapshot = 0
            move 1 0 1 = NO
            move 0 2 0 = NO
            move 0 4 0 = BAD
            told 4 = 0
            move 0 1 0 = 3
            told 4 = 2
            told 3 = 14
            move 0 1 2 = 3
            told 4 = 2
            ask 0 0 17 0 0 = 17
            snapshot = 1
            # also when it is given what it has
            move 0 1 2 = 3
            told 4 = 4
            told 3 = 14
            restore 0 = 4
            of 0 1 = 0
            of 0 2 = 0
            """);
    }

    private static void promise26Of() {
        Script.run("26 of", """
            of 0 0 = index!
            state -7 2 1 = 0
            state intmax 3 2 = 1
            of 0 0 = -7
            of 0 1 = 2
            of 0 2 = 1
            of 1 0 = intmax
            of 1 1 = 3
            of 1 2 = 2
            of 0 3 = index!
            of 0 -1 = index!
            of 0 intmin = index!
            of 2 0 = index!
            of -1 0 = index!
            of intmax 3 = index!
            move 0 1 0 = 0
            of 0 0 = -7
            of 0 1 = 1
            of 0 2 = 0
            """);
    }

    private static void promise27Told() {
        Script.run("27 told", """
            told 7 = BAD
            told -1 = BAD
            told intmin = BAD
            told intmax = BAD
            state 1 0 0 = 0
            state 2 1 0 = 1
            state 3 2 0 = 2
            state 4 3 0 = 3
            told 0 = 4
            key 1
            put 0 1 = 1
            add 1 1 = 1
            add 1 2 = 2
            set 2 1 1 = 1
            set 2 2 1 = 1
            set 2 3 1 = 1
            fold 3 1 = 1
            fold 3 1 = 2
            told 1 = 4
            told 5 = 4
            told 6 = 7
            key 17
            put 0 1 = 1
            told 1 = 5
            told 5 = 4
            told 6 = 8
            told 2 = 0
            told 3 = 0
            snapshot = 0
            snapshot = 1
            told 2 = 2
            told 3 = 16
            told 4 = 0
            put 0 1 = 0
            told 3 = 15
            told 4 = 1
            drop 0 = 15
            told 2 = 1
            clear 0 = true
            told 5 = 4
            key 1
            clear 0 = true
            told 5 = 3
            told 6 = 6
            """);
    }

    private static void pages() {
        Script.run("pages of keys, spans and states", """
            state 1 0 0 = 0
            state 2 0 0 = 1
            """ + Script.many(16, "key $\nput 0 $ = 1\ntold 5 = $+1") + """
            told 5 = 16
            clearSpan = 16
            # page 0: key 0; key 16; keys whose halves are the same; span 16; key 1 in span 1; state 1 with key 15
            key 0
            put 0 1 = 1
            key 16
            put 0 1 = 1
            key -1
            put 0 1 = 1
            key 4294967297
            put 0 1 = 1
            key 15
            put 1 1 = 1
            span 16 = 0
            key 0
            put 0 1 = 1
            span 1 = 16
            key 1
            put 0 1 = 1
            span intmin = 1
            key min
            put 0 1 = 1         # k and the span, both with the highest bit alone, go round
            told 1 = 8
            told 5 = 1
            # page 1: the upper half alone; page 15: span 1, and span -1 in page 1
            key 4294967296
            put 0 1 = 1
            told 5 = 2
            span -1 = intmin
            key 0
            put 0 1 = 1
            told 5 = 2
            span 1 = -1
            put 0 1 = 1
            told 5 = 3
            span 0 = 1
            key 15
            put 0 1 = 1
            told 5 = 3
            """);
        Script.run("every change copies a shared page, once", """
            state 1 0 0 = 0
            state 2 1 0 = 1
            state 3 2 0 = 2
            state 4 3 0 = 3
            key 0
            put 0 1 = 1
            add 1 1 = 1
            set 2 1 1 = 1
            fold 3 0 = 1
            told 4 = 0
            snapshot = 0
            put 0 1 = 0
            told 4 = 1
            put 0 1 = 0
            told 4 = 1
            add 1 1 = 2
            told 4 = 2
            set 2 1 1 = 0
            told 4 = 3
            fold 3 0 = 2
            told 4 = 4
            told 3 = 12
            key 16
            put 0 1 = 1
            told 4 = 4
            snapshot = 1
            told 3 = 16
            value 0 = 1
            size 0 = 1
            keys 0 = 2
            keyAt 0 0 = 0
            ask 1 0 16 0 0 = 1
            told 3 = 16
            add 1 7 = 1
            told 4 = 5
            # both snapshots share the page: still one copy
            key 7
            put 0 7 = 1
            told 4 = 6
            told 3 = 14
            """);
        Script.run("what is refused copies no page", """
            state 1 0 1 = 0
            state 2 1 1 = 1
            state 3 2 1 = 2
            key 0
            """ + Script.many(10, "add 1 $ = $+1\nset 2 $ $ = 1") + """
            put 0 5 = 1
            snapshot = 0
            put 0 1001 = argument!
            add 1 1 = FULL
            add 1 1001 = argument!
            set 2 10 1 = FULL
            set 2 1 1001 = argument!
            fold 0 1 = argument!
            remove 2 10 = false
            value 1 = argument!
            told 4 = 0
            told 3 = 16
            leave = true
            put 0 1 = state!
            add 1 1 = state!
            set 2 1 1 = state!
            clear 0 = state!
            told 4 = 0
            """);
    }
}
