import java.util.NoSuchElementException;

/**
 * The boundary cases of TABLES where no METATABLE is asked, sentence by sentence: ENTRIES, KEYS, AGE, LENGTH, RAW
 * GET and RAW SET of the Terms, and promises 7, 8, 10 and 12.
 */
public final class TablesEdgesTest {
    private static final Class<IllegalArgumentException> ARGUMENT = IllegalArgumentException.class;
    private static final Class<IllegalStateException> STATE = IllegalStateException.class;
    private static final Class<UnsupportedOperationException> UNSUPPORTED = UnsupportedOperationException.class;
    private static final Class<NoSuchElementException> MISSING = NoSuchElementException.class;
    private static final boolean[] RAW_OR_NOT = {true, false};
    private static final Object[] NO_TABLES = {Held.NIL, false, true, 0L, 1L, 0.5, new Held.Fn(3)};
    private static final Check check = new Check();

    public static void main(String[] args) {
        thirty();
        thirtyOfAllKinds();
        keys();
        wholeFloatKeys();
        sameKeys();
        ages();
        agesOfAFullTable();
        lengths();
        rawGet();
        rawSetNil();
        entriesStay();
        oneTableInManyPlaces();
        nilKey();
        getRefused();
        setRefused();
        setAnswers();
        lengthRefused();
        nextOrder();
        nextAtItsEnds();
        nextIntoItsRegisters();
        nextRefused();
        check.end("TablesEdgesTest");
    }

    private static LuaValues withEntries(long from, long to) {
        LuaValues v = Held.with(Held.TABLE);
        Held.entries(v, 0, from, to);
        return v;
    }

    private static void full(LuaValues v) {
        Held.put(v, 0, Held.TABLE);
        Held.entries(v, 0, 1, 30);
        Held.put(v, 1, 31L);
        Held.put(v, 2, 30.0);
    }

    private static void thirty() {
        check.sentence("of a 31st ENTRY: IllegalStateException");
        for (boolean raw : RAW_OR_NOT) {
            check.refusedIn("a 31st, raw " + raw, TablesEdgesTest::full, STATE, v -> v.set(0, 1, 1, raw));
            LuaValues v = new LuaValues();
            full(v);
            check.due("thirty are there", 30L, () -> v.whole(0));
            check.due("a change of the 30th, raw " + raw, 30, () -> v.set(0, 2, 1, raw));
            v.get(3, 0, 2, true);
            check.due("it is changed", 31L, () -> v.whole(3));
            check.due("nil for a 31st, raw " + raw, 30, () -> v.set(0, 1, 11, raw));
            check.due("nil for the 30th, raw " + raw, 29, () -> v.set(0, 2, 11, raw));
            check.due("then another, raw " + raw, 30, () -> v.set(0, 1, 1, raw));
            check.due("then a 31st again, raw " + raw, Check.thrown(STATE), () -> v.set(0, 2, 1, raw));
        }
        LuaValues v = withEntries(1, 29);
        v.make(1, 2, 30);
        check.due("the 30th", 30, () -> v.set(0, 1, 1, false));
    }

    private static void thirtyOfAllKinds() {
        check.sentence("A TABLE has at most 30 ENTRIES, a KEY and a VALUE that is not nil each.");
        Object[] keys = {true, 0.5, new Held.Fn(0), Held.TABLE};
        for (Object key : keys) {
            check.refusedIn("a 31st with the KEY " + key, v -> {
                full(v);
                Held.put(v, 3, key);
            }, STATE, v -> v.set(0, 3, 1, true));
        }
        LuaValues v = withEntries(1, 26);
        for (Object key : keys) {
            Held.entry(v, 0, key, 7L);
        }
        check.due("thirty with KEYS of all kinds", 30L, () -> v.whole(0));
        v.make(1, 1, 0);
        check.due("a 31st behind them", Check.thrown(STATE), () -> v.set(0, 1, 1, true));
    }

    private static void keys() {
        check.sentence("A KEY is any VALUE but nil");
        LuaValues v = Held.with(Held.TABLE, false, true, 0L, -1L, 0.5, new Held.Fn(0), new Held.Fn(5), Held.TABLE);
        int[] registers = {1, 2, 3, 4, 5, 6, 7, 8, 0};
        for (int i = 0; i < registers.length; i++) {
            int k = registers[i];
            int due = i + 1;
            check.due("set with the KEY of register " + k, due, () -> v.set(0, k, k, due % 2 == 0));
        }
        for (int k : registers) {
            check.due("get with the KEY of register " + k, v.kind(k), () -> v.get(9, 0, k, false));
            check.due("its own VALUE, register " + k, true, () -> v.compare(3, 9, k));
        }
        LuaValues w = Held.with(Held.TABLE);
        Held.entry(w, 0, Long.MIN_VALUE, 1L);
        Held.entry(w, 0, Long.MAX_VALUE, 2L);
        Held.entry(w, 0, 0x1p63, 3L);
        Held.entry(w, 0, Double.MAX_VALUE, 4L);
        Held.entry(w, 0, Double.MIN_VALUE, 5L);
        check.due("the greatest and the least", Long.MIN_VALUE + "=1 " + Long.MAX_VALUE + "=2 " + 0x1p63 + "=3 "
                + Double.MAX_VALUE + "=4 " + Double.MIN_VALUE + "=5 ", () -> Held.walk(w, 0));
    }

    private static void wholeFloatKeys() {
        check.sentence("a WHOLE FLOAT is the INT with its value");
        double[] floats = {-0x1p63, 0x1.fffffffffffffp62, 0.0, -0.0, 1.0, -1.0, 0x1p53};
        for (double x : floats) {
            LuaValues v = Held.with(Held.TABLE, x, (long) x, 2.0);
            check.due("set with " + x, 1, () -> v.set(0, 1, 3, false));
            check.due("the KEY is an INT", 2, () -> v.next(4, 0, 11));
            check.due("the KEY is an INT", (long) x, () -> v.whole(4));
            check.due("get with the INT", 3, () -> v.get(4, 0, 2, false));
            check.due("the VALUE stays a FLOAT", 2.0, () -> v.number(4));
            check.due("next after the FLOAT", 0, () -> v.next(4, 0, 1));
            check.due("the INT changes it", 1, () -> v.set(0, 2, 2, false));
            check.due("the FLOAT takes it away", 0, () -> v.set(0, 1, 11, false));
        }
        LuaValues v = Held.with(Held.TABLE, 0x1p63, Long.MAX_VALUE, Long.MIN_VALUE);
        check.due("set with 2^63", 1, () -> v.set(0, 1, 1, false));
        check.due("2^63 stays a FLOAT", 3, () -> v.next(4, 0, 11));
        check.due("it is not the greatest INT", 0, () -> v.get(4, 0, 2, false));
        check.due("nor the least", 0, () -> v.get(4, 0, 3, false));
    }

    private static void sameKeys() {
        check.sentence("Two KEYS that are RAW EQUAL are the same KEY.");
        Object[] keys = {false, true, 5L, 0.5, 0x1p63, new Held.Fn(0), new Held.Fn(1)};
        LuaValues v = Held.with(Held.TABLE);
        for (int i = 0; i < keys.length; i++) {
            Held.entry(v, 0, keys[i], (long) i);
        }
        check.due("all are apart", (long) keys.length, () -> v.whole(0));
        for (int i = 0; i < keys.length; i++) {
            Held.put(v, 1, keys[i]);
            int due = i;
            check.due("made anew, " + keys[i], 2, () -> v.get(2, 0, 1, true));
            check.due("made anew, " + keys[i], (long) due, () -> v.whole(2));
            check.due("set anew, " + keys[i], keys.length, () -> v.set(0, 1, 1, true));
        }
        v.make(3, 4, 0);
        v.make(4, 4, 0);
        v.move(5, 3);
        v.set(0, 3, 3, true);
        check.due("a TABLE moved is the same KEY", 4, () -> v.get(2, 0, 5, true));
        check.due("another TABLE is another KEY", 0, () -> v.get(2, 0, 4, true));
    }

    private static void ages() {
        check.sentence("Each ENTRY has an AGE: it came later than all that are in the TABLE when its KEY was put in"
                + " (and changing its VALUE leaves it).");
        LuaValues v = Held.with(Held.TABLE);
        Held.entry(v, 0, 30L, 1L);
        Held.entry(v, 0, 0.5, 2L);
        Held.entry(v, 0, true, 3L);
        check.due("as they came", "30=1 0.5=2 true=3 ", () -> Held.walk(v, 0));
        Held.entry(v, 0, 30L, 4L);
        check.due("the first one changed", "30=4 0.5=2 true=3 ", () -> Held.walk(v, 0));
        Held.entry(v, 0, 30.0, 5L);
        check.due("changed by the FLOAT", "30=5 0.5=2 true=3 ", () -> Held.walk(v, 0));
        Held.entry(v, 0, 30L, Held.NIL);
        check.due("gone", "0.5=2 true=3 ", () -> Held.walk(v, 0));
        Held.entry(v, 0, 30L, 6L);
        check.due("come again", "0.5=2 true=3 30=6 ", () -> Held.walk(v, 0));
        Held.entry(v, 0, 0.5, Held.NIL);
        Held.entry(v, 0, -5L, 7L);
        check.due("another in its place", "true=3 30=6 -5=7 ", () -> Held.walk(v, 0));
        Held.entry(v, 0, 99L, Held.NIL);
        check.due("nil for none", "true=3 30=6 -5=7 ", () -> Held.walk(v, 0));
        v.make(1, 1, 1);
        v.make(2, 2, 8);
        v.set(0, 1, 2, false);
        check.due("changed by a SET that is not raw", "true=8 30=6 -5=7 ", () -> Held.walk(v, 0));
    }

    private static void agesOfAFullTable() {
        check.sentence("then the others by AGE, the earliest first");
        LuaValues v = withEntries(101, 130);
        Held.entry(v, 0, 101L, Held.NIL);
        Held.entry(v, 0, 130L, Held.NIL);
        Held.entry(v, 0, 115L, Held.NIL);
        Held.entry(v, 0, 130L, 1L);
        Held.entry(v, 0, 115L, 2L);
        Held.entry(v, 0, 101L, 3L);
        StringBuilder due = new StringBuilder();
        for (int n = 102; n < 130; n++) {
            due.append(n == 115 ? "" : n + "=" + n + " ");
        }
        check.due("three gone and come again", due + "130=1 115=2 101=3 ", () -> Held.walk(v, 0));
    }

    private static void length(String what, LuaValues v, long due) {
        check.due(what, 2, () -> v.length(9, 0));
        check.due(what, due, () -> v.whole(9));
    }

    private static void lengths() {
        check.sentence("Its LENGTH is the least n >= 0 such that it has no KEY INT n + 1.");
        LuaValues v = Held.with(Held.TABLE);
        length("an empty TABLE", v, 0);
        Held.entry(v, 0, 0L, 1L);
        Held.entry(v, 0, -1L, 1L);
        Held.entry(v, 0, Long.MIN_VALUE, 1L);
        length("KEYS below 1", v, 0);
        Held.entry(v, 0, 2L, 1L);
        Held.entry(v, 0, 1.5, 1L);
        Held.entry(v, 0, true, 1L);
        length("without the KEY 1", v, 0);
        Held.entry(v, 0, 1.0, false);
        length("with the KEY 1, false in it", v, 2);
        Held.entry(v, 0, 4L, 1L);
        length("a gap at 3", v, 2);
        Held.entry(v, 0, 3L, 1L);
        length("the gap filled", v, 4);
        Held.entry(v, 0, 2L, Held.NIL);
        length("a gap at 2", v, 1);
        Held.entry(v, 0, 1L, Held.NIL);
        length("a gap at 1", v, 0);
        length("30", withEntries(1, 30), 30);
        length("29", withEntries(1, 29), 29);
        length("30 from 0 on", withEntries(0, 29), 29);
        length("30 from 2 on", withEntries(2, 31), 0);
        LuaValues own = withEntries(1, 3);
        check.due("into its own register", 2, () -> own.length(0, 0));
        check.due("into its own register", 3L, () -> Held.in(own, 0));
    }

    private static void rawGet() {
        check.sentence("RAW GET of a TABLE and a KEY: its VALUE, nil without ENTRY, and for nil.");
        LuaValues v = Held.with(Held.TABLE, 1L, false, 2L);
        for (boolean raw : RAW_OR_NOT) {
            v.make(4, 2, 9);
            check.due("of an empty TABLE, raw " + raw, 0, () -> v.get(4, 0, 1, raw));
            check.due("nil is there, raw " + raw, Held.NIL, () -> Held.in(v, 4));
            v.make(4, 2, 9);
            check.due("for nil, raw " + raw, 0, () -> v.get(4, 0, 11, raw));
            check.due("nil is there, raw " + raw, Held.NIL, () -> Held.in(v, 4));
        }
        v.set(0, 1, 2, true);
        for (boolean raw : RAW_OR_NOT) {
            check.due("false, raw " + raw, 1, () -> v.get(4, 0, 1, raw));
            check.due("without ENTRY, raw " + raw, 0, () -> v.get(4, 0, 3, raw));
            check.due("for nil, raw " + raw, 0, () -> v.get(4, 0, 11, raw));
            v.move(5, 1);
            check.due("into the register of its KEY, raw " + raw, 1, () -> v.get(5, 0, 5, raw));
            check.due("into the register of its KEY, raw " + raw, false, () -> Held.in(v, 5));
            v.move(6, 0);
            check.due("into the register of its TABLE, raw " + raw, 1, () -> v.get(6, 6, 1, raw));
            check.due("into the register of its TABLE, raw " + raw, false, () -> Held.in(v, 6));
        }
        check.due("the TABLE is as before", 1L, () -> v.whole(0));
    }

    private static void rawSetNil() {
        check.sentence("RAW SET with nil: the ENTRY goes, if any.");
        for (boolean raw : RAW_OR_NOT) {
            LuaValues v = withEntries(1, 3);
            v.make(1, 2, 2);
            v.make(2, 2, 9);
            check.due("nil for none, raw " + raw, 3, () -> v.set(0, 2, 11, raw));
            check.due("nil for an ENTRY, raw " + raw, 2, () -> v.set(0, 1, 11, raw));
            check.due("nil for it again, raw " + raw, 2, () -> v.set(0, 1, 11, raw));
            check.due("the others stay, raw " + raw, "1=1 3=3 ", () -> Held.walk(v, 0));
            LuaValues empty = Held.with(Held.TABLE, 1L);
            check.due("nil in an empty TABLE, raw " + raw, 0, () -> empty.set(0, 1, 11, raw));
            check.due("false is not nil, raw " + raw, 1, () -> {
                empty.make(2, 1, 0);
                return empty.set(0, 1, 2, raw);
            });
        }
    }

    private static void entriesStay() {
        check.sentence("an INT (64 bits); a FLOAT (a double, never infinite, always a number; 0 is never -0); a TABLE; a"
                + " FUNCTION 0 .. 5.");
        Object[] values = {false, true, 5L, 5.0, 0.5, Held.TABLE, new Held.Fn(0), new Held.Fn(5)};
        for (Object value : values) {
            for (boolean raw : RAW_OR_NOT) {
                LuaValues v = Held.with(Held.TABLE, 7L, value, 7L);
                v.set(0, 1, 2, raw);
                v.make(1, 2, 8);
                v.make(2, 2, 9);
                check.due(value + " when its registers hold others, raw " + raw, Held.kindOf(value),
                        () -> v.get(4, 0, 3, raw));
                check.due(value + " is there, raw " + raw, value, () -> Held.in(v, 4));
                v.make(4, 0, 0);
                check.due(value + " when what was got is gone, raw " + raw, Held.kindOf(value),
                        () -> v.get(4, 0, 3, raw));
                check.due("the KEY then, raw " + raw, 0, () -> v.get(4, 0, 1, raw));
            }
        }
    }

    private static void oneTableInManyPlaces() {
        check.sentence("REGISTERS 0 .. 11 hold VALUES");
        LuaValues v = Held.with(Held.TABLE, Held.TABLE, 1L, 2L);
        v.move(4, 0);
        check.due("set by the one register", 1, () -> v.set(0, 2, 3, false));
        check.due("told by the other", 1L, () -> v.whole(4));
        v.set(1, 2, 0, false);
        v.set(1, 0, 3, false);
        v.make(0, 0, 0);
        v.make(4, 0, 0);
        check.due("a TABLE that no register holds, got from an ENTRY", 4, () -> v.get(5, 1, 2, false));
        check.due("its ENTRIES", "1=2 ", () -> Held.walk(v, 5));
        check.due("it is the KEY of another ENTRY", 2, () -> v.get(6, 1, 5, false));
        check.due("set then", 2, () -> v.set(5, 3, 3, false));
        check.due("got once more", 4, () -> v.get(7, 1, 2, false));
        check.due("its ENTRIES are those", "1=2 2=2 ", () -> Held.walk(v, 7));
        check.due("it is the same TABLE", true, () -> v.compare(3, 5, 7));
    }

    private static void nilKey() {
        check.sentence("RAW SET in which a nil KEY is given: IllegalArgumentException");
        for (boolean raw : RAW_OR_NOT) {
            check.refusedIn("in an empty TABLE, raw " + raw, v -> Held.put(v, 0, Held.TABLE), ARGUMENT,
                    v -> v.set(0, 11, 0, raw));
            check.refusedIn("to nil, raw " + raw, v -> Held.put(v, 0, Held.TABLE), ARGUMENT,
                    v -> v.set(0, 11, 11, raw));
            check.refusedIn("in a full TABLE, raw " + raw, TablesEdgesTest::full, ARGUMENT, v -> v.set(0, 11, 1, raw));
            check.refusedIn("to nil in a full TABLE, raw " + raw, TablesEdgesTest::full, ARGUMENT,
                    v -> v.set(0, 11, 11, raw));
        }
    }

    private static void getRefused() {
        check.sentence("with raw true the RAW GET (UnsupportedOperationException: t is no TABLE): its kind");
        for (Object other : NO_TABLES) {
            for (boolean raw : RAW_OR_NOT) {
                check.refusedIn("t is " + other + ", raw " + raw, v -> noTable(v, other), UNSUPPORTED,
                        v -> v.get(1, 0, 1, raw));
                check.refusedIn("t is " + other + ", k nil, raw " + raw, v -> noTable(v, other), UNSUPPORTED,
                        v -> v.get(0, 0, 11, raw));
            }
        }
    }

    private static void noTable(LuaValues v, Object other) {
        Held.put(v, 0, other);
        Held.put(v, 1, 7L);
        Held.put(v, 2, Held.TABLE);
        Held.entry(v, 2, 7L, true);
    }

    private static void setRefused() {
        check.sentence("with raw true the RAW SET (UnsupportedOperationException: t is no TABLE)");
        for (Object other : NO_TABLES) {
            for (boolean raw : RAW_OR_NOT) {
                check.refusedIn("t is " + other + ", raw " + raw, v -> noTable(v, other), UNSUPPORTED,
                        v -> v.set(0, 1, 1, raw));
                check.refusedIn("t is " + other + ", k nil, raw " + raw, v -> noTable(v, other), UNSUPPORTED,
                        v -> v.set(0, 11, 1, raw));
            }
        }
    }

    private static void setAnswers() {
        check.sentence("how many ENTRIES the TABLE t has then");
        for (boolean raw : RAW_OR_NOT) {
            LuaValues v = Held.with(Held.TABLE, 1L, 1.0, 2L);
            check.due("the first, raw " + raw, 1, () -> v.set(0, 1, 1, raw));
            check.due("changed, raw " + raw, 1, () -> v.set(0, 2, 3, raw));
            check.due("the second, raw " + raw, 2, () -> v.set(0, 3, 3, raw));
            check.due("itself as KEY and VALUE, raw " + raw, 3, () -> v.set(0, 0, 0, raw));
            check.due("one goes, raw " + raw, 2, () -> v.set(0, 2, 11, raw));
            check.due("registers stay, raw " + raw, 1.0, () -> Held.in(v, 2));
        }
    }

    private static void lengthRefused() {
        check.sentence("UnsupportedOperationException: a is no TABLE.");
        for (Object other : NO_TABLES) {
            check.refusedIn("a is " + other, v -> noTable(v, other), UNSUPPORTED, v -> v.length(1, 0));
            check.refusedIn("a is " + other + ", into itself", v -> noTable(v, other), UNSUPPORTED,
                    v -> v.length(0, 0));
        }
    }

    private static void nextOrder() {
        check.sentence("KEYS INT 1 .. LENGTH come first, from 1 on; then the others by AGE, the earliest first.");
        LuaValues v = Held.with(Held.TABLE);
        Held.entry(v, 0, 3L, 1L);
        Held.entry(v, 0, true, 2L);
        Held.entry(v, 0, 2L, 3L);
        Held.entry(v, 0, 0L, 4L);
        check.due("without the KEY 1 all by AGE", "3=1 true=2 2=3 0=4 ", () -> Held.walk(v, 0));
        Held.entry(v, 0, 1L, 5L);
        check.due("with it 1 .. 3 first", "1=5 2=3 3=1 true=2 0=4 ", () -> Held.walk(v, 0));
        Held.entry(v, 0, 5L, 6L);
        check.due("5 is beyond a gap", "1=5 2=3 3=1 true=2 0=4 5=6 ", () -> Held.walk(v, 0));
        Held.entry(v, 0, 4.0, 7L);
        check.due("the gap filled", "1=5 2=3 3=1 4=7 5=6 true=2 0=4 ", () -> Held.walk(v, 0));
        Held.entry(v, 0, 2L, Held.NIL);
        check.due("a gap at 2", "1=5 3=1 true=2 0=4 5=6 4=7 ", () -> Held.walk(v, 0));
        Held.entry(v, 0, 1L, Held.NIL);
        check.due("a gap at 1", "3=1 true=2 0=4 5=6 4=7 ", () -> Held.walk(v, 0));
        LuaValues great = Held.with(Held.TABLE);
        long above = 1L << 32;
        Held.entry(great, 0, above + 1, 1L);
        Held.entry(great, 0, 2 - above, 2L);
        length("KEYS that are 1 and 2 in their last 32 bits", great, 0);
        Held.entry(great, 0, 2L, 3L);
        Held.entry(great, 0, 1L, 4L);
        length("with the KEYS 1 and 2", great, 2);
        check.due("1 and 2 first", "1=4 2=3 " + (above + 1) + "=1 " + (2 - above) + "=2 ", () -> Held.walk(great, 0));
    }

    private static void nextAtItsEnds() {
        check.sentence("(the first, if that is nil), nil if there is none: its kind");
        LuaValues empty = Held.with(Held.TABLE);
        empty.make(1, 2, 9);
        check.due("an empty TABLE", 0, () -> empty.next(1, 0, 11));
        check.due("nil is there", Held.NIL, () -> Held.in(empty, 1));
        LuaValues full = withEntries(1, 30);
        full.make(1, 2, 29);
        check.due("after the 29th of 30", 2, () -> full.next(1, 0, 1));
        check.due("after the 29th of 30", 30L, () -> Held.in(full, 1));
        check.due("after the 30th", 0, () -> full.next(1, 0, 1));
        check.due("nil is there", Held.NIL, () -> Held.in(full, 1));
        check.due("and then the first", 2, () -> full.next(1, 0, 1));
        check.due("and then the first", 1L, () -> Held.in(full, 1));
        LuaValues last = Held.with(Held.TABLE, false, Held.TABLE, new Held.Fn(3), 0.5);
        for (int k = 1; k <= 4; k++) {
            last.set(0, k, k, true);
        }
        int[] kinds = {1, 4, 5, 3, 0};
        for (int k = 0; k < kinds.length; k++) {
            int after = k == 0 ? 11 : k;
            int due = kinds[k];
            check.due("after KEY " + k + " of all kinds", due, () -> last.next(5, 0, after));
            check.due("kind " + due + " is there", due, () -> last.kind(5));
        }
    }

    private static void nextIntoItsRegisters() {
        check.sentence("REGISTER r becomes the KEY of the TABLE in REGISTER t that comes next after the KEY in REGISTER"
                + " k");
        LuaValues v = withEntries(1, 3);
        v.make(1, 2, 1);
        check.due("into the register of the KEY", 2, () -> v.next(1, 0, 1));
        check.due("into the register of the KEY", 2L, () -> Held.in(v, 1));
        v.real(2, 2.0, 0);
        check.due("after a WHOLE FLOAT", 2, () -> v.next(2, 0, 2));
        check.due("after a WHOLE FLOAT", 3L, () -> Held.in(v, 2));
        check.due("into the register of the TABLE", 2, () -> v.next(0, 0, 1));
        check.due("into the register of the TABLE", 3L, () -> Held.in(v, 0));
    }

    private static void someEntries(LuaValues v, Object key) {
        Held.put(v, 0, Held.TABLE);
        Held.entries(v, 0, 1, 3);
        Held.entry(v, 0, 7L, true);
        Held.entry(v, 0, 0.5, true);
        Held.put(v, 1, key);
        Held.put(v, 2, Held.TABLE);
    }

    private static void nextRefused() {
        check.sentence("NoSuchElementException: it has no ENTRY with the KEY.");
        Object[] keys = {0L, 4L, 8L, -1L, Long.MIN_VALUE, Long.MAX_VALUE, 4.0, 1.5, 0x1p63, true, false, Held.TABLE,
            new Held.Fn(1)};
        for (Object key : keys) {
            check.refusedIn("the KEY " + key, v -> someEntries(v, key), MISSING, v -> v.next(1, 0, 1));
            check.refusedIn("the KEY " + key + " in an empty TABLE", v -> someEntries(v, key), MISSING,
                    v -> v.next(0, 2, 1));
        }
        check.refusedIn("a KEY that went", v -> {
            someEntries(v, 2L);
            Held.entry(v, 0, 2L, Held.NIL);
        }, MISSING, v -> v.next(3, 0, 1));
        check.sentence("UnsupportedOperationException: t is no TABLE. NoSuchElementException");
        for (Object other : NO_TABLES) {
            check.refusedIn("t is " + other, v -> noTable(v, other), UNSUPPORTED, v -> v.next(1, 0, 1));
            check.refusedIn("t is " + other + ", k nil", v -> noTable(v, other), UNSUPPORTED, v -> v.next(0, 0, 11));
        }
    }
}
