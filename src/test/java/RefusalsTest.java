import java.util.NoSuchElementException;

/** In which order refused calls are refused, and that they change nothing: the last paragraph of the Terms. */
public final class RefusalsTest {
    private static final Class<IndexOutOfBoundsException> INDEX = IndexOutOfBoundsException.class;
    private static final Class<IllegalArgumentException> ARGUMENT = IllegalArgumentException.class;
    private static final Class<IllegalStateException> STATE = IllegalStateException.class;
    private static final Class<ArithmeticException> ARITHMETIC = ArithmeticException.class;
    private static final Class<UnsupportedOperationException> UNSUPPORTED = UnsupportedOperationException.class;
    private static final Class<NoSuchElementException> MISSING = NoSuchElementException.class;
    private static final int TABLE = 0;
    private static final int ASKED = 1;
    private static final int METATABLE = 2;
    private static final int SEVEN = 3;
    private static final int HALF = 4;
    private static final int GREAT = 5;
    private static final int ZERO = 6;
    private static final int FUNCTION = 7;
    private static final int TRUE = 8;
    private static final int NIL = 9;
    private static final boolean[] RAW_OR_NOT = {true, false};
    private static final Check check = new Check();

    public static void main(String[] args) {
        for (int no : Held.NO_REGISTERS) {
            check.sentence("Register numbers out of 0 .. 11 in any place: IndexOutOfBoundsException, before all else");
            noRegisterOfOne(no);
            noRegisterOfArithmetic(no);
            noRegisterOfCompare(no);
            noRegisterOfTables(no);
            noRegisterOfMetatables(no);
            noRegisterOfCall(no);
            noRegisterAtTheLimits(no);
        }
        argumentsFirst();
        argumentsAtTheLimits();
        asTheyComeUp();
        nothingChangesInFullTables();
        nothingChangesDeepDown();
        check.end("RefusalsTest");
    }

    /** One of each: a TABLE, another one with a METATABLE, that one, numbers, a FUNCTION, a boolean, nil. */
    private static void fill(LuaValues v) {
        Object[] values = {Held.TABLE, Held.TABLE, Held.TABLE, 7L, 0.5, Double.MAX_VALUE, 0L, new Held.Fn(2), true};
        for (int r = 0; r < values.length; r++) {
            Held.put(v, r, values[r]);
        }
        Held.entry(v, TABLE, 1L, 10L);
        Held.entry(v, TABLE, 0.5, false);
        Held.entry(v, ASKED, true, 2.5);
        Held.entry(v, METATABLE, 1L, new Held.Fn(1));
        Held.entry(v, METATABLE, 10L, new Held.Fn(2));
        v.meta(ASKED, METATABLE);
        v.call(NIL, FUNCTION, NIL, NIL);
    }

    private static void refused(String what, Class<? extends RuntimeException> want, Check.Step step) {
        check.refusedIn(what, RefusalsTest::fill, want, step);
    }

    private static void noRegisterOfOne(int no) {
        refused("make nil in " + no, INDEX, v -> v.make(no, 0, 0));
        refused("make a TABLE in " + no, INDEX, v -> v.make(no, 4, 0));
        refused("make another kind in " + no, INDEX, v -> v.make(no, 3, 0));
        refused("make no such FUNCTION in " + no, INDEX, v -> v.make(no, 5, 6));
        refused("real in " + no, INDEX, v -> v.real(no, 1.0, 0));
        refused("real in " + no + ", e out of range", INDEX, v -> v.real(no, 1.0, 301));
        refused("real in " + no + ", infinite", INDEX, v -> v.real(no, Double.MAX_VALUE, 1));
        refused("move to " + no, INDEX, v -> v.move(no, SEVEN));
        refused("move from " + no, INDEX, v -> v.move(SEVEN, no));
        refused("move from and to " + no, INDEX, v -> v.move(no, no));
        refused("kind of " + no, INDEX, v -> v.kind(no));
        refused("whole of " + no, INDEX, v -> v.whole(no));
        refused("number of " + no, INDEX, v -> v.number(no));
    }

    private static void noRegisterOfArithmetic(int no) {
        for (int o = -1; o <= 10; o++) {
            int operation = o;
            refused("operation " + o + " into " + no, INDEX, v -> v.arithmetic(operation, no, SEVEN, SEVEN));
            refused("operation " + o + " of a " + no, INDEX, v -> v.arithmetic(operation, SEVEN, no, SEVEN));
            refused("operation " + o + " of b " + no, INDEX, v -> v.arithmetic(operation, SEVEN, SEVEN, no));
            refused("operation " + o + " into " + no + ", by 0", INDEX,
                    v -> v.arithmetic(operation, no, SEVEN, ZERO));
            refused("operation " + o + " into " + no + ", of nil", INDEX, v -> v.arithmetic(operation, no, NIL, NIL));
            refused("operation " + o + " of b " + no + ", a nil", INDEX, v -> v.arithmetic(operation, SEVEN, NIL, no));
            refused("operation " + o + " of b " + no + ", a TABLE", INDEX,
                    v -> v.arithmetic(operation, SEVEN, ASKED, no));
        }
    }

    private static void noRegisterOfCompare(int no) {
        for (int w = -1; w <= 4; w++) {
            int what = w;
            refused("what " + w + " of a " + no, INDEX, v -> v.compare(what, no, SEVEN));
            refused("what " + w + " of b " + no, INDEX, v -> v.compare(what, SEVEN, no));
            refused("what " + w + " of a " + no + ", b nil", INDEX, v -> v.compare(what, no, NIL));
            refused("what " + w + " of b " + no + ", a nil", INDEX, v -> v.compare(what, NIL, no));
        }
    }

    private static void noRegisterOfTables(int no) {
        for (boolean raw : RAW_OR_NOT) {
            refused("get into " + no, INDEX, v -> v.get(no, TABLE, SEVEN, raw));
            refused("get of t " + no, INDEX, v -> v.get(SEVEN, no, SEVEN, raw));
            refused("get of k " + no, INDEX, v -> v.get(SEVEN, TABLE, no, raw));
            refused("get into " + no + ", t no TABLE", INDEX, v -> v.get(no, NIL, SEVEN, raw));
            refused("get of k " + no + ", t no TABLE", INDEX, v -> v.get(SEVEN, NIL, no, raw));
            refused("get into " + no + ", by a FUNCTION", INDEX, v -> v.get(no, ASKED, SEVEN, raw));
            refused("set of t " + no, INDEX, v -> v.set(no, SEVEN, SEVEN, raw));
            refused("set of k " + no, INDEX, v -> v.set(TABLE, no, SEVEN, raw));
            refused("set of v " + no, INDEX, v -> v.set(TABLE, SEVEN, no, raw));
            refused("set of v " + no + ", k nil", INDEX, v -> v.set(TABLE, NIL, no, raw));
            refused("set of v " + no + ", t no TABLE", INDEX, v -> v.set(SEVEN, SEVEN, no, raw));
            refused("set of k " + no + ", t no TABLE", INDEX, v -> v.set(SEVEN, no, SEVEN, raw));
            refused("set of t " + no + ", k nil", INDEX, v -> v.set(no, NIL, SEVEN, raw));
        }
        refused("next into " + no, INDEX, v -> v.next(no, TABLE, NIL));
        refused("next of t " + no, INDEX, v -> v.next(SEVEN, no, NIL));
        refused("next of k " + no, INDEX, v -> v.next(SEVEN, TABLE, no));
        refused("next into " + no + ", t no TABLE", INDEX, v -> v.next(no, SEVEN, NIL));
        refused("next of k " + no + ", t no TABLE", INDEX, v -> v.next(SEVEN, SEVEN, no));
        refused("next into " + no + ", no such KEY", INDEX, v -> v.next(no, TABLE, SEVEN));
    }

    private static void noRegisterOfMetatables(int no) {
        refused("meta of t " + no, INDEX, v -> v.meta(no, METATABLE));
        refused("meta of m " + no, INDEX, v -> v.meta(TABLE, no));
        refused("meta of t " + no + ", m a number", INDEX, v -> v.meta(no, SEVEN));
        refused("meta of m " + no + ", t no TABLE", INDEX, v -> v.meta(SEVEN, no));
        refused("length into " + no, INDEX, v -> v.length(no, TABLE));
        refused("length of a " + no, INDEX, v -> v.length(SEVEN, no));
        refused("length into " + no + ", a no TABLE", INDEX, v -> v.length(no, SEVEN));
    }

    private static void noRegisterOfCall(int no) {
        refused("call into " + no, INDEX, v -> v.call(no, FUNCTION, SEVEN, SEVEN));
        refused("call of f " + no, INDEX, v -> v.call(SEVEN, no, SEVEN, SEVEN));
        refused("call with a " + no, INDEX, v -> v.call(SEVEN, FUNCTION, no, SEVEN));
        refused("call with b " + no, INDEX, v -> v.call(SEVEN, FUNCTION, SEVEN, no));
        refused("call into " + no + ", f an INT", INDEX, v -> v.call(no, SEVEN, SEVEN, SEVEN));
        refused("call with a " + no + ", f an INT", INDEX, v -> v.call(SEVEN, SEVEN, no, SEVEN));
        refused("call with b " + no + ", f a TABLE", INDEX, v -> v.call(SEVEN, TABLE, SEVEN, no));
    }

    private static void twentyTables(LuaValues v) {
        fill(v);
        for (int i = 0; i < 17; i++) {
            v.make(NIL, 4, 0);
        }
        v.make(NIL, 0, 0);
    }

    private static void fullTable(LuaValues v) {
        fill(v);
        Held.entries(v, TABLE, 2, 29);
    }

    private static void noRegisterAtTheLimits(int no) {
        check.refusedIn("a 21st TABLE in " + no, RefusalsTest::twentyTables, INDEX, v -> v.make(no, 4, 0));
        for (boolean raw : RAW_OR_NOT) {
            check.refusedIn("a 31st ENTRY of v " + no, RefusalsTest::fullTable, INDEX,
                    v -> v.set(TABLE, TRUE, no, raw));
        }
    }

    private static void argumentsFirst() {
        check.sentence("then IllegalArgumentException for a kind, an e, an operation, a what; the others as they come"
                + " up");
        refused("e before infinite", ARGUMENT, v -> v.real(SEVEN, Double.MAX_VALUE, 301));
        refused("e before infinite", ARGUMENT, v -> v.real(SEVEN, Double.POSITIVE_INFINITY, 301));
        refused("e below before infinite", ARGUMENT, v -> v.real(SEVEN, Double.NEGATIVE_INFINITY, -301));
        int[] operations = {-1, 10, Integer.MIN_VALUE, Integer.MAX_VALUE};
        for (int operation : operations) {
            refused("operation " + operation + " before nil", ARGUMENT, v -> v.arithmetic(operation, SEVEN, NIL, NIL));
            refused("operation " + operation + " before by 0", ARGUMENT,
                    v -> v.arithmetic(operation, SEVEN, SEVEN, ZERO));
            refused("operation " + operation + " before a HANDLER", ARGUMENT,
                    v -> v.arithmetic(operation, SEVEN, ASKED, ASKED));
            refused("operation " + operation + " before infinite", ARGUMENT,
                    v -> v.arithmetic(operation, SEVEN, GREAT, GREAT));
        }
        int[] whats = {-1, 4, Integer.MIN_VALUE, Integer.MAX_VALUE};
        for (int what : whats) {
            refused("what " + what + " before nil", ARGUMENT, v -> v.compare(what, NIL, NIL));
            refused("what " + what + " before a TABLE", ARGUMENT, v -> v.compare(what, ASKED, TABLE));
            refused("what " + what + " of the same", ARGUMENT, v -> v.compare(what, SEVEN, SEVEN));
        }
    }

    private static void argumentsAtTheLimits() {
        int[] kinds = {-1, 3, 6};
        for (int kind : kinds) {
            check.refusedIn("kind " + kind + " after 20 TABLES", RefusalsTest::twentyTables, ARGUMENT,
                    v -> v.make(SEVEN, kind, 0));
        }
        check.refusedIn("no such FUNCTION after 20 TABLES", RefusalsTest::twentyTables, ARGUMENT,
                v -> v.make(SEVEN, 5, 6));
    }

    private static void asTheyComeUp() {
        check.sentence("What throws changes nothing.");
        refused("real, infinite", ARITHMETIC, v -> v.real(HALF, Double.MAX_VALUE, 1));
        refused("a sum, infinite", ARITHMETIC, v -> v.arithmetic(0, GREAT, GREAT, GREAT));
        refused("/ by 0", ARITHMETIC, v -> v.arithmetic(3, SEVEN, SEVEN, ZERO));
        refused("// by 0", ARITHMETIC, v -> v.arithmetic(4, ZERO, SEVEN, ZERO));
        refused("% by 0", ARITHMETIC, v -> v.arithmetic(5, HALF, SEVEN, ZERO));
        refused("% of a FLOAT by 0", UNSUPPORTED, v -> v.arithmetic(5, HALF, HALF, ZERO));
        refused("AND of a FLOAT", UNSUPPORTED, v -> v.arithmetic(6, HALF, HALF, SEVEN));
        refused("a TABLE by 0 without a HANDLER", UNSUPPORTED, v -> v.arithmetic(3, TABLE, TABLE, ZERO));
        refused("LESS of a TABLE", UNSUPPORTED, v -> v.compare(1, ASKED, TABLE));
        refused("get of a number", UNSUPPORTED, v -> v.get(SEVEN, SEVEN, SEVEN, false));
        refused("set of a FUNCTION", UNSUPPORTED, v -> v.set(FUNCTION, SEVEN, SEVEN, false));
        refused("set of no TABLE with a nil KEY", UNSUPPORTED, v -> v.set(SEVEN, NIL, SEVEN, true));
        refused("set of a nil KEY", ARGUMENT, v -> v.set(TABLE, NIL, SEVEN, true));
        refused("set of a nil KEY to nil", ARGUMENT, v -> v.set(TABLE, NIL, NIL, true));
        refused("meta of no TABLE", UNSUPPORTED, v -> v.meta(TRUE, METATABLE));
        refused("meta to a boolean", UNSUPPORTED, v -> v.meta(ASKED, TRUE));
        refused("meta to a boolean of one without", UNSUPPORTED, v -> v.meta(TABLE, TRUE));
        refused("length of a FUNCTION", UNSUPPORTED, v -> v.length(FUNCTION, FUNCTION));
        refused("call of a TABLE", UNSUPPORTED, v -> v.call(TABLE, TABLE, SEVEN, SEVEN));
        refused("next of a number", UNSUPPORTED, v -> v.next(SEVEN, SEVEN, SEVEN));
        refused("next after no KEY of it", MISSING, v -> v.next(SEVEN, TABLE, SEVEN));
        refused("whole of another FLOAT", ARITHMETIC, v -> v.whole(HALF));
        refused("number of a TABLE", UNSUPPORTED, v -> v.number(TABLE));
    }

    private static void nothingChangesInFullTables() {
        check.refusedIn("a 21st TABLE", RefusalsTest::twentyTables, STATE, v -> v.make(SEVEN, 4, 0));
        for (boolean raw : RAW_OR_NOT) {
            check.refusedIn("a 31st ENTRY", RefusalsTest::fullTable, STATE, v -> v.set(TABLE, TRUE, SEVEN, raw));
            check.refusedIn("a nil KEY in a full TABLE", RefusalsTest::fullTable, ARGUMENT,
                    v -> v.set(TABLE, NIL, SEVEN, raw));
        }
    }

    /** Register 0 a TABLE whose HANDLER for the event is itself, so that no DEPTH is enough. */
    private static void endless(LuaValues v, int event) {
        fill(v);
        v.meta(TABLE, METATABLE);
        Held.entryOf(v, METATABLE, (long) event, TABLE);
        Held.entryOf(v, METATABLE, 7L, TABLE);
    }

    private static void nothingChangesDeepDown() {
        deep(1, v -> v.get(TABLE, TABLE, SEVEN, false));
        deep(2, v -> v.set(TABLE, SEVEN, SEVEN, false));
        deep(3, v -> v.compare(0, TABLE, ASKED));
        deep(4, v -> v.compare(1, SEVEN, TABLE));
        deep(5, v -> v.compare(2, TABLE, SEVEN));
        deep(6, v -> v.length(TABLE, TABLE));
        deep(7, v -> v.call(TABLE, TABLE, SEVEN, SEVEN));
        for (int o = 0; o < 10; o++) {
            int operation = o;
            deep(10 + o, v -> v.arithmetic(operation, TABLE, TABLE, SEVEN));
        }
    }

    private static void deep(int event, Check.Step step) {
        check.refusedIn("event " + event + " without an end", v -> endless(v, event), STATE, step);
    }
}
