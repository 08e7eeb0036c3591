/** Promises 7 to 11 with METATABLES: get, set, meta, length, call, and the DEPTH. */
public final class HandlersTest {
    private static final Class<IndexOutOfBoundsException> INDEX = IndexOutOfBoundsException.class;
    private static final Class<IllegalArgumentException> ARGUMENT = IllegalArgumentException.class;
    private static final Class<IllegalStateException> STATE = IllegalStateException.class;
    private static final Class<UnsupportedOperationException> UNSUPPORTED = UnsupportedOperationException.class;
    private static final int GET = 1;
    private static final int SET = 2;
    private static final int LENGTH = 6;
    private static final int CALL = 7;
    private static final Check check = new Check();

    public static void main(String[] args) {
        meta();
        functions();
        callsOfTables();
        callDepth();
        gets();
        getDepth();
        sets();
        setDepth();
        lengths();
        operationDepth();
        check.end("HandlersTest");
    }

    /** Register 0 a TABLE with the METATABLE in 1, register 2 the INT 5, register 3 the INT 77. */
    private static LuaValues withMetatable() {
        LuaValues v = new LuaValues();
        v.make(0, 4, 0);
        v.make(1, 4, 0);
        v.meta(0, 1);
        v.make(2, 2, 5);
        v.make(3, 2, 77);
        return v;
    }

    /** What register handler holds becomes what the TABLE in a register says of an event. */
    private static void say(LuaValues v, int metatable, int event, int handler) {
        v.make(11, 2, event);
        v.set(metatable, 11, handler, true);
        v.make(11, 0, 0);
    }

    private static void sayFunction(LuaValues v, int metatable, int event, int function) {
        v.make(10, 5, function);
        say(v, metatable, event, 10);
        v.make(10, 0, 0);
    }

    /**
     * A chain: register 0 a TABLE whose HANDLER for the event is a TABLE, and so on, as many TABLES as
     * told; the last one's HANDLER is what register 9 holds. Register 1 is left with the last TABLE.
     */
    private static LuaValues chain(int event, int tables, int lastKind, long last) {
        LuaValues v = new LuaValues();
        v.make(9, lastKind, last);
        v.make(0, 4, 0);
        v.move(1, 0);
        for (int i = 1; i <= tables; i++) {
            v.make(3, 4, 0);
            v.meta(1, 3);
            if (i < tables) {
                v.make(4, 4, 0);
                say(v, 3, event, 4);
                v.move(1, 4);
            } else {
                say(v, 3, event, 9);
            }
        }
        v.make(3, 0, 0);
        v.make(4, 0, 0);
        return v;
    }

    private static void meta() {
        LuaValues v = withMetatable();
        sayFunction(v, 1, GET, 2);
        check.due("9 it counts", 2, () -> v.get(4, 0, 2, false));
        check.due("9 none", 0, () -> v.meta(0, 11));
        check.due("9 none now", 0, () -> v.get(4, 0, 2, false));
        check.due("9 its own", 0, () -> v.meta(1, 1));
        check.due("9 its own counts", 2, () -> v.get(4, 1, 2, false));
        v.make(5, 1, 0);
        check.refused("9 t no TABLE", v, UNSUPPORTED, () -> v.meta(2, 1));
        check.refused("9 t nil", v, UNSUPPORTED, () -> v.meta(11, 11));
        check.refused("9 m an INT", v, UNSUPPORTED, () -> v.meta(1, 2));
        check.refused("9 m false", v, UNSUPPORTED, () -> v.meta(1, 5));
        check.due("9 a refused one changes nothing", 2, () -> v.get(4, 1, 2, false));
        check.refused("9 t 12", v, INDEX, () -> v.meta(12, 1));
        check.refused("9 m 12 before no TABLE", v, INDEX, () -> v.meta(2, 12));
    }

    private static void function(LuaValues v, long number, int a, int b, int kind, long whole) {
        v.make(8, 5, number);
        String what = "11 FUNCTION " + number + " of registers " + a + " and " + b;
        check.due(what, kind, () -> v.call(9, 8, a, b));
        check.due(what, kind, () -> v.kind(9));
        check.due(what, whole, () -> v.whole(9));
    }

    private static void functions() {
        LuaValues v = withMetatable();
        sayFunction(v, 1, GET, 1);
        sayFunction(v, 1, LENGTH, 1);
        v.make(4, 2, 1);
        v.set(0, 4, 3, true);
        v.make(5, 1, 0);
        function(v, 0, 2, 3, 0, 0);
        function(v, 1, 2, 3, 2, 5);
        function(v, 2, 2, 3, 2, 77);
        function(v, 3, 0, 4, 2, 77);
        function(v, 3, 0, 2, 0, 0);
        function(v, 3, 0, 11, 0, 0);
        function(v, 3, 2, 4, 0, 0);
        function(v, 4, 0, 2, 2, 1);
        function(v, 4, 2, 0, 0, 0);
        function(v, 5, 11, 2, 1, 0);
        function(v, 5, 5, 2, 1, 0);
        function(v, 5, 0, 5, 1, 1);
        v.make(5, 2, 0);
        function(v, 5, 5, 11, 1, 1);
        check.due("16 all of them", 13, () -> v.count(3));
        check.refused("11 r", v, INDEX, () -> v.call(12, 8, 0, 0));
        check.refused("11 f", v, INDEX, () -> v.call(9, -1, 0, 0));
        check.refused("11 a", v, INDEX, () -> v.call(9, 11, 12, 0));
        check.refused("11 b", v, INDEX, () -> v.call(9, 11, 0, 12));
        check.refused("11 nil", v, UNSUPPORTED, () -> v.call(9, 11, 0, 0));
        check.refused("11 an INT", v, UNSUPPORTED, () -> v.call(9, 2, 0, 0));
    }

    private static void callsOfTables() {
        LuaValues v = withMetatable();
        check.refused("11 a TABLE without a HANDLER", v, UNSUPPORTED, () -> v.call(9, 0, 2, 3));
        sayFunction(v, 1, CALL, 1);
        check.due("11 it is called with the TABLE", 4, () -> v.call(9, 0, 2, 3));
        check.due("11 it is called with the TABLE", true, () -> v.compare(3, 0, 9));
        sayFunction(v, 1, CALL, 2);
        check.due("11 and with a", 2, () -> v.call(9, 0, 2, 3));
        check.due("11 and with a", 5L, () -> v.whole(9));
        v.make(4, 4, 0);
        v.meta(4, 1);
        v.make(5, 4, 0);
        v.make(6, 4, 0);
        v.meta(6, 5);
        say(v, 5, CALL, 4);
        check.due("11 a TABLE that a TABLE names", 4, () -> v.call(9, 6, 2, 3));
        check.due("11 is called with the first TABLE", true, () -> v.compare(3, 6, 9));
        say(v, 5, CALL, 2);
        check.refused("11 an INT that a TABLE names", v, UNSUPPORTED, () -> v.call(9, 6, 2, 3));
    }

    private static void callDepth() {
        LuaValues v = chain(CALL, 7, 5, 5);
        check.due("11 a FUNCTION at DEPTH 8", 1, () -> v.call(5, 0, 9, 9));
        LuaValues w = chain(CALL, 8, 5, 5);
        check.refused("11 a FUNCTION at DEPTH 9", w, STATE, () -> w.call(5, 0, 9, 9));
        LuaValues x = chain(CALL, 7, 2, 5);
        check.refused("11 an INT at DEPTH 8", x, UNSUPPORTED, () -> x.call(5, 0, 9, 9));
        LuaValues y = chain(CALL, 8, 2, 5);
        check.refused("11 an INT at DEPTH 9", y, STATE, () -> y.call(5, 0, 9, 9));
        LuaValues z = withMetatable();
        say(z, 1, CALL, 0);
        check.refused("11 round and round", z, STATE, () -> z.call(5, 0, 2, 2));
    }

    private static void gets() {
        LuaValues v = withMetatable();
        check.due("7 a METATABLE that says nothing", 0, () -> v.get(4, 0, 2, false));
        sayFunction(v, 1, GET, 1);
        check.due("7 a FUNCTION gets the TABLE", 4, () -> v.get(4, 0, 2, false));
        check.due("7 a FUNCTION gets the TABLE", true, () -> v.compare(3, 0, 4));
        sayFunction(v, 1, GET, 2);
        check.due("7 and the KEY", 2, () -> v.get(4, 0, 2, false));
        check.due("7 and the KEY", 5L, () -> v.whole(4));
        v.real(5, 5.0, 0);
        check.due("7 as it is in its REGISTER", 3, () -> v.get(4, 0, 5, false));
        sayFunction(v, 1, GET, 5);
        check.due("7 nil is asked for too", 1, () -> v.get(4, 0, 11, false));
        check.due("7 raw asks none", 0, () -> v.get(4, 0, 2, true));
        v.set(0, 2, 3, true);
        check.due("7 an ENTRY comes first", 2, () -> v.get(4, 0, 2, false));
        v.set(0, 2, 11, true);
        v.make(6, 4, 0);
        v.set(6, 2, 3, true);
        say(v, 1, GET, 6);
        check.due("7 another TABLE", 2, () -> v.get(4, 0, 2, false));
        check.due("7 another TABLE", 77L, () -> v.whole(4));
        check.due("7 another TABLE without it", 0, () -> v.get(4, 0, 3, false));
        check.due("7 another TABLE and nil", 0, () -> v.get(4, 0, 11, false));
        say(v, 1, GET, 3);
        check.refused("7 an INT", v, UNSUPPORTED, () -> v.get(4, 0, 2, false));
        v.make(7, 1, 0);
        say(v, 1, GET, 7);
        check.refused("7 false", v, UNSUPPORTED, () -> v.get(4, 0, 2, false));
    }

    private static void getDepth() {
        LuaValues v = chain(GET, 7, 5, 2);
        check.due("7 a FUNCTION at DEPTH 8", 5, () -> v.get(5, 0, 9, false));
        LuaValues w = chain(GET, 8, 5, 2);
        check.refused("7 a FUNCTION at DEPTH 9", w, STATE, () -> w.get(5, 0, 9, false));
        w.set(1, 9, 9, true);
        check.due("7 an ENTRY at DEPTH 8", 5, () -> w.get(5, 0, 9, false));
        LuaValues x = chain(GET, 7, 2, 5);
        check.refused("7 an INT at DEPTH 8", x, UNSUPPORTED, () -> x.get(5, 0, 9, false));
        LuaValues y = chain(GET, 8, 2, 5);
        check.refused("7 an INT at DEPTH 9", y, STATE, () -> y.get(5, 0, 9, false));
        LuaValues z = withMetatable();
        say(z, 1, GET, 0);
        check.refused("7 round and round", z, STATE, () -> z.get(4, 0, 2, false));
    }

    private static void sets() {
        LuaValues v = withMetatable();
        check.due("8 a METATABLE that says nothing", 1, () -> v.set(0, 2, 3, false));
        sayFunction(v, 1, SET, 5);
        int calls = v.count(3);
        check.due("8 an ENTRY is changed", 1, () -> v.set(0, 2, 2, false));
        check.due("8 no CALL for that", calls, () -> v.count(3));
        check.due("8 a FUNCTION sets nothing", 1, () -> v.set(0, 3, 2, false));
        check.due("8 but is called", calls + 1, () -> v.count(3));
        check.due("8 for a nil KEY too", 1, () -> v.set(0, 11, 2, false));
        check.due("8 it is called", calls + 2, () -> v.count(3));
        check.due("8 raw asks none", 2, () -> v.set(0, 3, 2, true));
        check.due("8 an ENTRY goes", 1, () -> v.set(0, 3, 11, false));
        v.make(6, 4, 0);
        say(v, 1, SET, 6);
        check.due("8 another TABLE: t has no more", 1, () -> v.set(0, 3, 2, false));
        check.due("8 another TABLE", 1L, () -> v.whole(6));
        check.refused("8 another TABLE and a nil KEY", v, ARGUMENT, () -> v.set(0, 11, 2, false));
        say(v, 1, SET, 3);
        check.refused("8 an INT", v, UNSUPPORTED, () -> v.set(0, 3, 2, false));
        check.due("8 an INT, and an ENTRY", 1, () -> v.set(0, 2, 3, false));
    }

    private static void setDepth() {
        LuaValues v = chain(SET, 7, 5, 2);
        check.due("8 a FUNCTION at DEPTH 8", 0, () -> v.set(0, 9, 9, false));
        check.due("8 a FUNCTION at DEPTH 8", 1, () -> v.count(3));
        LuaValues w = chain(SET, 8, 5, 2);
        check.refused("8 a FUNCTION at DEPTH 9", w, STATE, () -> w.set(0, 9, 9, false));
        w.set(1, 9, 9, true);
        check.due("8 an ENTRY at DEPTH 8", 0, () -> w.set(0, 9, 11, false));
        check.due("8 an ENTRY at DEPTH 8 goes", 0L, () -> w.whole(1));
        LuaValues x = chain(SET, 7, 2, 5);
        check.refused("8 an INT at DEPTH 8", x, UNSUPPORTED, () -> x.set(0, 9, 9, false));
        LuaValues y = chain(SET, 8, 2, 5);
        check.refused("8 an INT at DEPTH 9", y, STATE, () -> y.set(0, 9, 9, false));
        LuaValues z = withMetatable();
        say(z, 1, SET, 0);
        check.refused("8 round and round", z, STATE, () -> z.set(0, 2, 2, false));
    }

    private static void lengths() {
        LuaValues v = withMetatable();
        check.due("10 a METATABLE that says nothing", 2, () -> v.length(4, 0));
        sayFunction(v, 1, LENGTH, 1);
        check.due("10 called with a", 4, () -> v.length(4, 0));
        check.due("10 called with a", true, () -> v.compare(3, 0, 4));
        sayFunction(v, 1, LENGTH, 2);
        check.due("10 and with a again", 4, () -> v.length(5, 0));
        check.due("10 and with a again", true, () -> v.compare(3, 0, 5));
        sayFunction(v, 1, LENGTH, 0);
        check.due("10 nil", 0, () -> v.length(4, 0));
        say(v, 1, LENGTH, 2);
        check.refused("10 an INT", v, UNSUPPORTED, () -> v.length(4, 0));
    }

    /** The operation's HANDLER is called at DEPTH 2, so one TABLE less than for call may stand between. */
    private static void operationDepth() {
        int[] events = {LENGTH, 10, 19, 3, 4, 5};
        for (int event : events) {
            LuaValues v = chain(CALL, 6, 5, 5);
            ask(v, event);
            check.due("event " + event + ", a FUNCTION at DEPTH 8", true, () -> done(v, event));
            LuaValues w = chain(CALL, 7, 5, 5);
            ask(w, event);
            check.refused("event " + event + ", a FUNCTION at DEPTH 9", w, STATE, () -> done(w, event));
        }
    }

    private static void ask(LuaValues v, int event) {
        v.make(5, 4, 0);
        v.make(6, 4, 0);
        v.meta(5, 6);
        say(v, 6, event, 0);
    }

    private static boolean done(LuaValues v, int event) {
        switch (event) {
            case LENGTH:
                return v.length(7, 5) == 1;
            case 10:
                return v.arithmetic(0, 7, 5, 9) == 1;
            case 19:
                return v.arithmetic(9, 7, 5, 9) == 1;
            case 3:
                return v.compare(0, 5, 6);
            case 4:
                return v.compare(1, 9, 5);
            default:
                return v.compare(2, 5, 9);
        }
    }
}
