/**
 * The boundary cases of METATABLES, sentence by sentence: HANDLER, EVENTS, CALL, GET, SET and DEPTH of the Terms,
 * and promises 7 to 11.
 */
public final class HandlersEdgesTest {
    private static final Class<IllegalArgumentException> ARGUMENT = IllegalArgumentException.class;
    private static final Class<IllegalStateException> STATE = IllegalStateException.class;
    private static final Class<UnsupportedOperationException> UNSUPPORTED = UnsupportedOperationException.class;
    private static final int GET = 1;
    private static final int SET = 2;
    private static final int LENGTH = 6;
    private static final int CALL = 7;
    private static final Object[] NO_TABLES = {Held.NIL, false, true, 0L, 1L, 0.5, new Held.Fn(3)};
    private static final Object[] NO_HANDLERS_TO_USE = {false, true, 5L, 0.5};
    private static final Check check = new Check();

    public static void main(String[] args) {
        metatables();
        metaRefused();
        handlersAreRaw();
        handlersOfOthers();
        handlersAreAskedEachTime();
        events();
        functions();
        functionsAskNoMetatable();
        callsOfTables();
        callsRefused();
        callDepth();
        gets();
        getsOfHandlers();
        getsRefused();
        getDepth();
        sets();
        setsOfHandlers();
        setsToNil();
        intoItsOwnRegisters();
        setsRefused();
        setDepth();
        lengths();
        lengthDepth();
        check.end("HandlersEdgesTest");
    }

    /** Register 0 a TABLE with the METATABLE in 1, register 2 the INT 5, register 3 the INT 77. */
    private static void fill(LuaValues v, int event, Object handler) {
        Held.put(v, 0, Held.TABLE);
        Held.put(v, 1, Held.TABLE);
        Held.entry(v, 1, (long) event, handler);
        v.meta(0, 1);
        Held.put(v, 2, 5L);
        Held.put(v, 3, 77L);
    }

    private static LuaValues with(int event, Object handler) {
        LuaValues v = new LuaValues();
        fill(v, event, handler);
        return v;
    }

    private static void metatables() {
        check.sentence("REGISTER m becomes the METATABLE of the TABLE in REGISTER t (none, if m is nil): 0.");
        LuaValues v = Held.with(Held.TABLE, Held.TABLE, 5L, Held.TABLE);
        Held.entry(v, 1, 1L, new Held.Fn(2));
        check.due("a new TABLE has none", 0, () -> v.get(4, 0, 2, false));
        check.due("meta", 0, () -> v.meta(0, 1));
        check.due("it is asked", 2, () -> v.get(4, 0, 2, false));
        v.make(1, 0, 0);
        check.due("it stays when its register is another's", 2, () -> v.get(4, 0, 2, false));
        check.due("another METATABLE", 0, () -> v.meta(0, 3));
        check.due("the first is not asked", 0, () -> v.get(4, 0, 2, false));
        check.due("none", 0, () -> v.meta(0, 11));
        check.due("none again", 0, () -> v.meta(0, 11));
        check.due("none is asked", 0, () -> v.get(4, 0, 2, false));
        check.due("its own METATABLE", 0, () -> v.meta(3, 3));
        Held.entry(v, 3, 1L, new Held.Fn(2));
        check.due("its own METATABLE is asked", 2, () -> v.get(4, 3, 2, false));
        check.due("it is no METATABLE of another", 0, () -> v.get(4, 0, 2, false));
        v.meta(0, 3);
        check.due("two TABLES with one METATABLE", 2, () -> v.get(4, 0, 2, false));
        check.due("the ENTRIES of the TABLE are as before", 0L, () -> v.whole(0));
    }

    private static void metaRefused() {
        check.sentence("UnsupportedOperationException: t is no TABLE, or m neither.");
        Object[] others = {false, true, 0L, 0.5, new Held.Fn(0)};
        for (Object other : others) {
            check.refusedIn("t is " + other, v -> withOther(v, other), UNSUPPORTED, v -> v.meta(4, 0));
            check.refusedIn("t is " + other + ", m nil", v -> withOther(v, other), UNSUPPORTED, v -> v.meta(4, 11));
            check.refusedIn("m is " + other, v -> withOther(v, other), UNSUPPORTED, v -> v.meta(0, 4));
            check.refusedIn("m is " + other + ", t has none", v -> withOther(v, other), UNSUPPORTED,
                    v -> v.meta(1, 4));
        }
        check.refusedIn("t is nil", v -> withOther(v, true), UNSUPPORTED, v -> v.meta(11, 0));
        check.refusedIn("both are nil", v -> withOther(v, true), UNSUPPORTED, v -> v.meta(11, 11));
    }

    private static void withOther(LuaValues v, Object other) {
        fill(v, GET, new Held.Fn(5));
        Held.put(v, 4, other);
    }

    private static void handlersAreRaw() {
        check.sentence("The HANDLER of a VALUE for an EVENT (an INT): RAW GET of its METATABLE, if it is a TABLE with"
                + " one, and the EVENT; else nil.");
        LuaValues v = Held.with(Held.TABLE, Held.TABLE, Held.TABLE, 5L);
        v.meta(0, 1);
        v.meta(1, 2);
        Held.entry(v, 2, 1L, new Held.Fn(2));
        Held.entry(v, 2, 7L, new Held.Fn(2));
        check.due("the METATABLE of the METATABLE is not asked for 1", 0, () -> v.get(4, 0, 3, false));
        check.due("nor for 7", Check.thrown(UNSUPPORTED), () -> v.call(4, 0, 3, 3));
        LuaValues own = Held.with(Held.TABLE, 5L);
        Held.entry(own, 0, 1L, new Held.Fn(2));
        Held.entry(own, 0, 7L, new Held.Fn(2));
        check.due("a TABLE's own ENTRY 1 says nothing", 0, () -> own.get(4, 0, 1, false));
        check.due("nor its own ENTRY 7", Check.thrown(UNSUPPORTED), () -> own.call(4, 0, 1, 1));
        LuaValues whole = Held.with(Held.TABLE, Held.TABLE, 5L);
        Held.entry(whole, 1, 1.0, new Held.Fn(2));
        whole.meta(0, 1);
        check.due("the EVENT put in as a WHOLE FLOAT", 2, () -> whole.get(4, 0, 2, false));
        LuaValues others = Held.with(Held.TABLE, Held.TABLE, 5L);
        Held.entry(others, 1, true, new Held.Fn(2));
        Held.entry(others, 1, 1.5, new Held.Fn(2));
        Held.entry(others, 1, new Held.Fn(1), new Held.Fn(2));
        others.meta(0, 1);
        check.due("KEYS that are no INT 1", 0, () -> others.get(4, 0, 2, false));
    }

    private static void handlersOfOthers() {
        check.sentence("if it is a TABLE with one");
        for (Object other : NO_TABLES) {
            LuaValues v = with(CALL, new Held.Fn(5));
            Held.put(v, 4, other);
            if (!(other instanceof Held.Fn)) {
                check.due("call of " + other, Check.thrown(UNSUPPORTED), () -> v.call(5, 4, 0, 0));
            }
            check.due("get of " + other, Check.thrown(UNSUPPORTED), () -> v.get(5, 4, 0, false));
            check.due("negative of true", Check.thrown(UNSUPPORTED), () -> {
                v.make(4, 1, 1);
                return v.arithmetic(9, 5, 4, 0);
            });
        }
    }

    private static void handlersAreAskedEachTime() {
        check.sentence("RAW GET of its METATABLE");
        LuaValues v = with(GET, new Held.Fn(2));
        check.due("the first HANDLER", 2, () -> v.get(4, 0, 2, false));
        Held.entry(v, 1, 1L, new Held.Fn(1));
        check.due("another HANDLER", 4, () -> v.get(4, 0, 2, false));
        Held.entry(v, 1, 1L, Held.NIL);
        check.due("no HANDLER", 0, () -> v.get(4, 0, 2, false));
        LuaValues full = with(GET, Held.NIL);
        Held.entries(full, 1, 101, 129);
        Held.entry(full, 1, 1L, new Held.Fn(2));
        check.due("the 30th ENTRY of a full METATABLE", 2, () -> full.get(4, 0, 2, false));
    }

    /** With a HANDLER for one event alone, each of the seventeen things that may ask asks for its own. */
    private static void events() {
        check.sentence("EVENTS: 1 GET, 2 SET, 3 EQUAL, 4 LESS, 5 LESS OR EQUAL, 6 LENGTH, 7 CALL, 10 + o the operation"
                + " o.");
        Object refused = Check.thrown(UNSUPPORTED);
        for (int e = -1; e <= 21; e++) {
            int event = e;
            String what = "with a HANDLER for " + event + ", ";
            check.due(what + "get", event == GET ? 1 : 0, () -> scene(event).get(5, 0, 2, false));
            check.due(what + "set", event == SET ? 0 : 1, () -> scene(event).set(0, 2, 2, false));
            check.due(what + "EQUAL", event == 3, () -> scene(event).compare(0, 0, 4));
            check.due(what + "LESS", event == 4 ? true : refused, () -> scene(event).compare(1, 0, 4));
            check.due(what + "LESS OR EQUAL", event == 5 ? true : refused, () -> scene(event).compare(2, 0, 4));
            check.due(what + "RAW EQUAL", false, () -> scene(event).compare(3, 0, 4));
            check.due(what + "length", event == LENGTH ? 1 : 2, () -> scene(event).length(5, 0));
            check.due(what + "call", event == CALL ? 1 : refused, () -> scene(event).call(5, 0, 2, 2));
            for (int o = 0; o < 10; o++) {
                int operation = o;
                check.due(what + "operation " + o, event == 10 + o ? 1 : refused,
                        () -> scene(event).arithmetic(operation, 5, 0, 2));
            }
        }
    }

    private static LuaValues scene(int event) {
        LuaValues v = with(event, new Held.Fn(5));
        v.make(4, 4, 0);
        return v;
    }

    private static void function(LuaValues v, long number, int a, int b, Object due) {
        v.make(8, 5, number);
        v.make(9, 2, 1000);
        String what = "FUNCTION " + number + " of registers " + a + " and " + b;
        check.due(what, Held.kindOf(due), () -> v.call(9, 8, a, b));
        check.due(what, due, () -> Held.in(v, 9));
    }

    private static void functions() {
        check.sentence("CALL of a VALUE f with a and b, at a DEPTH: a FUNCTION: 0 gives nil, 1 a, 2 b, 3 the RAW GET of"
                + " a and b (nil if a is no TABLE), 4 the LENGTH of a as an INT (nil if no TABLE), 5 false if a is"
                + " FALSE, else true.");
        LuaValues v = Held.with(Held.TABLE, 1L, 0.5, false, Held.TABLE, 2L, 0L);
        Held.entries(v, 0, 1, 2);
        Held.entry(v, 0, 0.5, true);
        function(v, 0, 1, 2, Held.NIL);
        function(v, 1, 1, 2, 1L);
        function(v, 1, 11, 2, Held.NIL);
        function(v, 2, 1, 2, 0.5);
        function(v, 2, 1, 11, Held.NIL);
        function(v, 3, 0, 2, true);
        function(v, 3, 0, 6, Held.NIL);
        function(v, 3, 0, 11, Held.NIL);
        function(v, 3, 4, 1, Held.NIL);
        function(v, 3, 1, 0, Held.NIL);
        function(v, 3, 11, 11, Held.NIL);
        function(v, 4, 0, 11, 2L);
        function(v, 4, 4, 0, 0L);
        function(v, 4, 1, 0, Held.NIL);
        function(v, 4, 11, 0, Held.NIL);
        function(v, 5, 11, 1, false);
        function(v, 5, 3, 1, false);
        function(v, 5, 6, 3, true);
        function(v, 5, 4, 11, true);
        check.due("each was counted once", 19, () -> v.count(3));
        v.make(7, 5, 1);
        check.due("into its own register", 5, () -> v.call(7, 7, 7, 1));
        check.due("into the register of a", 5, () -> v.call(1, 7, 7, 1));
    }

    private static void functionsAskNoMetatable() {
        check.sentence("3 the RAW GET of a and b (nil if a is no TABLE), 4 the LENGTH of a as an INT");
        LuaValues v = with(GET, new Held.Fn(5));
        Held.entry(v, 1, (long) LENGTH, new Held.Fn(5));
        v.make(6, 5, 3);
        check.due("FUNCTION 3 asks no HANDLER for 1", 0, () -> v.call(5, 6, 0, 2));
        v.make(6, 5, 4);
        check.due("FUNCTION 4 asks no HANDLER for 6", 2, () -> v.call(5, 6, 0, 2));
        check.due("FUNCTION 4 of an empty TABLE", 0L, () -> Held.in(v, 5));
        check.due("only those two were done", 2, () -> v.count(3));
        v.make(4, 4, 0);
        Held.entry(v, 4, 5L, true);
        Held.entryOf(v, 1, (long) GET, 4);
        check.due("the TABLE that is asked has it", 1, () -> v.get(5, 0, 2, false));
        v.make(6, 5, 3);
        check.due("FUNCTION 3 does not ask that TABLE", 0, () -> v.call(5, 6, 0, 2));
    }

    private static void callsOfTables() {
        check.sentence("Another VALUE: with its HANDLER h for 7, if that is not nil: CALL of h with f and a, one"
                + " deeper");
        LuaValues first = with(CALL, new Held.Fn(1));
        check.due("the first is f", 4, () -> first.call(4, 0, 2, 3));
        check.due("the first is f", true, () -> first.compare(3, 4, 0));
        LuaValues second = with(CALL, new Held.Fn(2));
        check.due("the second is a", 2, () -> second.call(4, 0, 2, 3));
        check.due("the second is a", 5L, () -> Held.in(second, 4));
        for (int number = 1; number <= 2; number++) {
            LuaValues v = Held.chain(CALL, 2, new Held.Fn(number));
            int same = number == 1 ? 1 : 0;
            check.due("a TABLE behind a TABLE, FUNCTION " + number, 4, () -> v.call(4, 0, 2, 3));
            check.due("it gives the TABLE in register " + same, true, () -> v.compare(3, 4, same));
        }
    }

    private static void callsRefused() {
        check.sentence("else UnsupportedOperationException");
        Object[] others = {Held.NIL, false, true, 0L, 5L, 0.5, Held.TABLE};
        for (Object other : others) {
            check.refusedIn("call of " + other, v -> {
                Held.put(v, 0, other);
                Held.put(v, 1, 5L);
            }, UNSUPPORTED, v -> v.call(1, 0, 1, 1));
        }
        for (Object handler : NO_HANDLERS_TO_USE) {
            check.refusedIn("call of a TABLE whose HANDLER is " + handler, v -> fill(v, CALL, handler), UNSUPPORTED,
                    v -> v.call(2, 0, 2, 3));
        }
        check.refusedIn("call of a TABLE whose HANDLER is a TABLE without", v -> fill(v, CALL, Held.TABLE), UNSUPPORTED,
                v -> v.call(0, 0, 2, 3));
    }

    private static void callDepth() {
        check.sentence("What is one deeper than DEPTH 8 throws IllegalStateException instead. The first DEPTH is 1.");
        for (int n = 1; n <= 9; n++) {
            int tables = n;
            Object due = tables <= 7 ? (Object) 1 : Check.thrown(STATE);
            LuaValues v = Held.chain(CALL, tables, new Held.Fn(5));
            check.due("call of a FUNCTION behind " + tables + " TABLES", due, () -> v.call(5, 0, 5, 5));
            check.due("it was done or not", tables <= 7 ? 1 : 0, () -> v.count(3));
            check.due("the register then", tables <= 7 ? (Object) true : Held.NIL, () -> Held.in(v, 5));
        }
        LuaValues seven = Held.chain(CALL, 7, 5L);
        check.due("call of an INT at DEPTH 8", Check.thrown(UNSUPPORTED), () -> seven.call(5, 0, 5, 5));
        LuaValues eight = Held.chain(CALL, 8, 5L);
        check.due("call of an INT at DEPTH 9", Check.thrown(STATE), () -> eight.call(5, 0, 5, 5));
        for (Object handler : NO_HANDLERS_TO_USE) {
            LuaValues call = Held.chain(CALL, 8, handler);
            check.due("call of " + handler + " at DEPTH 9", Check.thrown(STATE), () -> call.call(5, 0, 5, 5));
            LuaValues get = Held.chain(GET, 8, handler);
            check.due("get of " + handler + " at DEPTH 9", Check.thrown(STATE), () -> get.get(5, 0, 0, false));
            LuaValues set = Held.chain(SET, 8, handler);
            check.due("set of " + handler + " at DEPTH 9", Check.thrown(STATE), () -> set.set(0, 0, 0, false));
        }
        LuaValues none = Held.chain(CALL, 8, Held.NIL);
        check.due("a TABLE without HANDLER at DEPTH 8", Check.thrown(UNSUPPORTED), () -> none.call(5, 0, 5, 5));
        LuaValues last = Held.chain(CALL, 9, Held.NIL);
        check.due("a TABLE without HANDLER at DEPTH 9", Check.thrown(STATE), () -> last.call(5, 0, 5, 5));
        check.refusedIn("call round and round", v -> roundAndRound(v, CALL), STATE, v -> v.call(0, 0, 2, 2));
        check.refusedIn("get round and round", v -> roundAndRound(v, GET), STATE, v -> v.get(0, 0, 2, false));
        check.refusedIn("set round and round", v -> roundAndRound(v, SET), STATE, v -> v.set(0, 2, 2, false));
    }

    private static void roundAndRound(LuaValues v, int event) {
        fill(v, event, Held.NIL);
        Held.entryOf(v, 1, (long) event, 0);
    }

    private static void gets() {
        check.sentence("t is a TABLE: the RAW GET, if it is not nil, or there is no HANDLER for 1 (nil then)");
        LuaValues v = with(GET, new Held.Fn(1));
        v.set(0, 2, 3, true);
        check.due("an ENTRY comes first", 2, () -> v.get(4, 0, 2, false));
        check.due("an ENTRY comes first", 77L, () -> Held.in(v, 4));
        check.due("no CALL was done", 0, () -> v.count(3));
        check.due("without ENTRY the HANDLER", 4, () -> v.get(4, 0, 3, false));
        check.due("for nil the HANDLER", 4, () -> v.get(4, 0, 11, false));
        check.due("raw asks none", 0, () -> v.get(4, 0, 3, true));
        v.make(5, 1, 0);
        v.set(0, 3, 5, true);
        check.due("an ENTRY that is false comes first", 1, () -> v.get(4, 0, 3, false));
        LuaValues none = with(GET, Held.NIL);
        check.due("a METATABLE without the HANDLER", 0, () -> none.get(4, 0, 2, false));
        check.due("for nil without the HANDLER", 0, () -> none.get(4, 0, 11, false));
    }

    private static void getsOfHandlers() {
        check.sentence("With a HANDLER h: it is a FUNCTION: CALL of h with t and k, one deeper; else GET of h and k,"
                + " one deeper.");
        LuaValues first = with(GET, new Held.Fn(1));
        check.due("the first is t", 4, () -> first.get(4, 0, 2, false));
        check.due("the first is t", true, () -> first.compare(3, 4, 0));
        LuaValues second = with(GET, new Held.Fn(2));
        second.real(5, 5.0, 0);
        check.due("the second is k as its REGISTER holds it", 3, () -> second.get(4, 0, 5, false));
        LuaValues v = Held.chain(GET, 2, new Held.Fn(2));
        v.make(2, 2, 5);
        v.make(3, 2, 77);
        check.due("the HANDLER of the second TABLE", 2, () -> v.get(4, 0, 2, false));
        check.due("the HANDLER of the second TABLE", 5L, () -> Held.in(v, 4));
        v.set(1, 2, 3, true);
        check.due("an ENTRY of the second TABLE", 2, () -> v.get(4, 0, 2, false));
        check.due("an ENTRY of the second TABLE", 77L, () -> Held.in(v, 4));
        LuaValues t = Held.chain(GET, 2, new Held.Fn(1));
        t.make(2, 2, 5);
        check.due("the second TABLE is the t then", 4, () -> t.get(4, 0, 2, false));
        check.due("the second TABLE is the t then", true, () -> t.compare(3, 4, 1));
        LuaValues called = with(GET, Held.NIL);
        called.make(4, 4, 0);
        called.make(5, 4, 0);
        Held.entry(called, 5, (long) CALL, new Held.Fn(5));
        called.meta(4, 5);
        Held.entryOf(called, 1, (long) GET, 4);
        check.due("a TABLE that could be called is asked all the same", 0, () -> called.get(6, 0, 2, false));
        check.due("it is not called", 0, () -> called.count(3));
        LuaValues none = Held.chain(GET, 2, Held.NIL);
        none.make(4, 2, 9);
        check.due("nil as the KEY, of the second TABLE too", 0, () -> none.get(4, 0, 11, false));
        check.due("nil is there", Held.NIL, () -> Held.in(none, 4));
    }

    private static void getsRefused() {
        check.sentence("t is none and there is no HANDLER (there is none then): UnsupportedOperationException.");
        for (Object other : NO_TABLES) {
            check.refusedIn("get of " + other, v -> withOther(v, other), UNSUPPORTED, v -> v.get(4, 4, 2, false));
            check.refusedIn("get of " + other + " and nil", v -> withOther(v, other), UNSUPPORTED,
                    v -> v.get(2, 4, 11, false));
        }
        for (Object handler : NO_HANDLERS_TO_USE) {
            check.refusedIn("get of a TABLE whose HANDLER is " + handler, v -> fill(v, GET, handler), UNSUPPORTED,
                    v -> v.get(2, 0, 2, false));
        }
    }

    private static void getDepth() {
        check.sentence("GET of a VALUE t and a KEY k, at a DEPTH");
        for (int n = 1; n <= 9; n++) {
            int tables = n;
            LuaValues v = Held.chain(GET, tables, new Held.Fn(5));
            v.make(3, 2, 5);
            check.due("get by a FUNCTION behind " + tables + " TABLES", tables <= 7 ? (Object) 1 : Check.thrown(STATE),
                    () -> v.get(5, 0, 3, false));
            check.due("it was done or not", tables <= 7 ? 1 : 0, () -> v.count(3));
            v.set(1, 3, 3, true);
            check.due("get of an ENTRY of TABLE " + tables, tables <= 8 ? (Object) 2 : Check.thrown(STATE),
                    () -> v.get(5, 0, 3, false));
            LuaValues none = Held.chain(GET, tables, Held.NIL);
            none.make(3, 2, 5);
            none.make(5, 2, 5);
            check.due("get of nil from TABLE " + tables, tables <= 8 ? (Object) 0 : Check.thrown(STATE),
                    () -> none.get(5, 0, 3, false));
            LuaValues number = Held.chain(GET, tables, 5L);
            check.due("get from an INT behind " + tables + " TABLES",
                    Check.thrown(tables <= 7 ? UNSUPPORTED : STATE), () -> number.get(5, 0, 0, false));
        }
    }

    private static void sets() {
        check.sentence("t is a TABLE, and the RAW GET is not nil, or there is no HANDLER for 2: RAW SET.");
        LuaValues v = with(SET, new Held.Fn(5));
        v.set(0, 2, 3, true);
        check.due("an ENTRY is changed", 1, () -> v.set(0, 2, 2, false));
        check.due("it is changed", "5=5 ", () -> Held.walk(v, 0));
        check.due("an ENTRY goes", 0, () -> {
            v.make(11, 0, 0);
            return v.set(0, 2, 11, false);
        });
        check.due("no CALL was done", 0, () -> v.count(3));
        check.due("without ENTRY the HANDLER", 0, () -> v.set(0, 2, 3, false));
        check.due("its CALL was done", 1, () -> v.count(3));
        check.due("nothing is set", 0L, () -> v.whole(0));
        check.due("a nil KEY is the HANDLER's too", 0, () -> v.set(0, 11, 3, false));
        check.due("its CALL was done", 2, () -> v.count(3));
        check.due("raw asks none", 1, () -> v.set(0, 2, 3, true));
        LuaValues no = with(SET, new Held.Fn(5));
        Held.entry(no, 0, 5L, false);
        check.due("an ENTRY that is false is changed", 1, () -> no.set(0, 2, 3, false));
        check.due("it is changed", "5=77 ", () -> Held.walk(no, 0));
        check.due("no CALL was done", 0, () -> no.count(3));
        LuaValues none = with(SET, Held.NIL);
        check.due("a METATABLE without the HANDLER", 1, () -> none.set(0, 2, 3, false));
        check.due("a nil KEY then", Check.thrown(ARGUMENT), () -> none.set(0, 11, 3, false));
    }

    private static void setsOfHandlers() {
        check.sentence("With a HANDLER h: a FUNCTION: CALL of h with t and k, one deeper; else SET of h, k to v, one"
                + " deeper.");
        LuaValues v = Held.chain(SET, 2, Held.NIL);
        v.make(2, 2, 5);
        v.make(3, 2, 77);
        check.due("in the second TABLE: t has none", 0, () -> v.set(0, 2, 3, false));
        check.due("in the second TABLE", "5=77 ", () -> Held.walk(v, 1));
        check.due("nil in the second TABLE", 0, () -> {
            v.make(11, 0, 0);
            return v.set(0, 2, 11, false);
        });
        check.due("it is gone there", 0L, () -> v.whole(1));
        LuaValues both = Held.chain(SET, 2, new Held.Fn(5));
        both.make(2, 2, 5);
        both.make(3, 2, 77);
        both.set(1, 2, 2, true);
        check.due("an ENTRY of the second TABLE is changed", 0, () -> both.set(0, 2, 3, false));
        check.due("it is changed", "5=77 ", () -> Held.walk(both, 1));
        check.due("no CALL was done", 0, () -> both.count(3));
        check.due("without ENTRY in it its HANDLER", 0, () -> both.set(0, 3, 3, false));
        check.due("its CALL was done", 1, () -> both.count(3));
        both.set(0, 3, 3, true);
        check.due("how many t has, not the second", 1, () -> both.set(0, 2, 2, false));
        LuaValues called = with(SET, Held.NIL);
        called.make(4, 4, 0);
        called.make(5, 4, 0);
        Held.entry(called, 5, (long) CALL, new Held.Fn(5));
        called.meta(4, 5);
        Held.entryOf(called, 1, (long) SET, 4);
        check.due("a TABLE that could be called is set all the same", 0, () -> called.set(0, 2, 3, false));
        check.due("it is not called", 0, () -> called.count(3));
        check.due("it is set", 1L, () -> called.whole(4));
    }

    private static void setsToNil() {
        check.sentence("or there is no HANDLER for 2: RAW SET");
        LuaValues v = with(SET, new Held.Fn(5));
        check.due("nil without ENTRY is the HANDLER's", 0, () -> v.set(0, 2, 11, false));
        check.due("its CALL was done", 1, () -> v.count(3));
        check.refusedIn("nil without ENTRY for a HANDLER that is true", w -> fill(w, SET, true), UNSUPPORTED,
                w -> w.set(0, 2, 11, false));
        check.due("raw asks none", 0, () -> v.set(0, 2, 11, true));
        check.due("no CALL was done", 1, () -> v.count(3));
    }

    private static void intoItsOwnRegisters() {
        check.sentence("A TABLE may have a METATABLE.");
        LuaValues v = with(GET, new Held.Fn(2));
        Held.entry(v, 1, (long) LENGTH, new Held.Fn(0));
        Held.entry(v, 1, (long) CALL, new Held.Fn(2));
        Held.entry(v, 1, 10L, new Held.Fn(2));
        for (int r = 4; r <= 7; r++) {
            v.move(r, 0);
        }
        check.due("get into the register of t", 2, () -> v.get(4, 4, 2, false));
        check.due("get into the register of t", 5L, () -> Held.in(v, 4));
        check.due("length into the register of a", 0, () -> v.length(5, 5));
        check.due("length into the register of a", Held.NIL, () -> Held.in(v, 5));
        check.due("call into the register of f", 2, () -> v.call(6, 6, 2, 3));
        check.due("call into the register of f", 5L, () -> Held.in(v, 6));
        check.due("a sum into the register of a", 2, () -> v.arithmetic(0, 7, 7, 3));
        check.due("a sum into the register of a", 77L, () -> Held.in(v, 7));
        check.due("the TABLE in its other register has its METATABLE", 2, () -> v.get(8, 0, 3, false));
        v.make(9, 4, 0);
        v.set(9, 2, 0, true);
        v.make(0, 0, 0);
        v.get(4, 9, 2, true);
        check.due("a TABLE got from an ENTRY has its METATABLE", 2, () -> v.get(4, 4, 3, false));
        check.due("a TABLE got from an ENTRY has its METATABLE", 77L, () -> Held.in(v, 4));
    }

    private static void setsRefused() {
        check.sentence("t is none: UnsupportedOperationException.");
        for (Object other : NO_TABLES) {
            check.refusedIn("set of " + other, v -> withOther(v, other), UNSUPPORTED, v -> v.set(4, 2, 3, false));
            check.refusedIn("set of " + other + ", nil KEY", v -> withOther(v, other), UNSUPPORTED,
                    v -> v.set(4, 11, 3, false));
        }
        for (Object handler : NO_HANDLERS_TO_USE) {
            check.refusedIn("set of a TABLE whose HANDLER is " + handler, v -> fill(v, SET, handler), UNSUPPORTED,
                    v -> v.set(0, 2, 3, false));
        }
        check.refusedIn("a nil KEY in the second TABLE", v -> secondTable(v, 3), ARGUMENT, v -> v.set(0, 11, 3, false));
        check.refusedIn("a 31st ENTRY in the second TABLE", v -> secondTable(v, 30), STATE,
                v -> v.set(0, 3, 3, false));
        check.refusedIn("a nil KEY in a full second TABLE", v -> secondTable(v, 30), ARGUMENT,
                v -> v.set(0, 11, 3, false));
        LuaValues v = new LuaValues();
        secondTable(v, 30);
        check.due("a change in a full second TABLE", 0, () -> v.set(0, 2, 3, false));
        v.get(5, 4, 2, true);
        check.due("a change in a full second TABLE", 77L, () -> Held.in(v, 5));
    }

    private static void secondTable(LuaValues v, int entries) {
        fill(v, SET, Held.NIL);
        Held.put(v, 4, Held.TABLE);
        Held.entryOf(v, 1, (long) SET, 4);
        Held.entries(v, 4, 1, entries);
    }

    private static void setDepth() {
        check.sentence("SET of t, k to v, at a DEPTH");
        for (int n = 1; n <= 9; n++) {
            int tables = n;
            Object done = tables <= 8 ? (Object) (tables == 1 ? 1 : 0) : Check.thrown(STATE);
            LuaValues v = Held.chain(SET, tables, new Held.Fn(5));
            v.make(3, 2, 5);
            check.due("set by a FUNCTION behind " + tables + " TABLES", tables <= 7 ? (Object) 0 : Check.thrown(STATE),
                    () -> v.set(0, 3, 3, false));
            check.due("it was done or not", tables <= 7 ? 1 : 0, () -> v.count(3));
            v.set(1, 3, 3, true);
            check.due("a change in TABLE " + tables, done, () -> v.set(0, 3, 3, false));
            LuaValues none = Held.chain(SET, tables, Held.NIL);
            none.make(3, 2, 5);
            check.due("set in TABLE " + tables, done, () -> none.set(0, 3, 3, false));
            check.due("it is set or not", tables <= 8 ? 1L : 0L, () -> none.whole(1));
            LuaValues number = Held.chain(SET, tables, 5L);
            check.due("set in an INT behind " + tables + " TABLES",
                    Check.thrown(tables <= 7 ? UNSUPPORTED : STATE), () -> number.set(0, 0, 0, false));
        }
    }

    private static void lengths() {
        check.sentence("with a HANDLER h for 6 the CALL of h with a and a at DEPTH 2: the kind");
        for (int number = 1; number <= 2; number++) {
            LuaValues v = with(LENGTH, new Held.Fn(number));
            check.due("FUNCTION " + number, 4, () -> v.length(4, 0));
            check.due("FUNCTION " + number + " gives a", true, () -> v.compare(3, 4, 0));
        }
        LuaValues nil = with(LENGTH, new Held.Fn(0));
        nil.make(4, 2, 9);
        check.due("nil", 0, () -> nil.length(4, 0));
        check.due("nil is there", Held.NIL, () -> Held.in(nil, 4));
        LuaValues none = with(LENGTH, Held.NIL);
        check.due("a METATABLE without the HANDLER", 2, () -> none.length(4, 0));
        for (Object handler : NO_HANDLERS_TO_USE) {
            check.refusedIn("length of a TABLE whose HANDLER is " + handler, v -> fill(v, LENGTH, handler), UNSUPPORTED,
                    v -> v.length(0, 0));
        }
        check.refusedIn("whose HANDLER is a TABLE without one", v -> fill(v, LENGTH, Held.TABLE), UNSUPPORTED,
                v -> v.length(2, 0));
    }

    private static void lengthDepth() {
        check.sentence("at DEPTH 2: the kind");
        for (int n = 5; n <= 8; n++) {
            int tables = n;
            LuaValues v = Held.chain(CALL, tables, new Held.Fn(5));
            v.make(4, 4, 0);
            v.make(5, 4, 0);
            Held.entryOf(v, 5, (long) LENGTH, 0);
            v.meta(4, 5);
            check.due("length behind " + tables + " TABLES", tables <= 6 ? (Object) 1 : Check.thrown(STATE),
                    () -> v.length(6, 4));
            check.due("the register then", tables <= 6 ? (Object) true : Held.NIL, () -> Held.in(v, 6));
        }
    }
}
