/**
 * The boundary cases of what registers hold, sentence by sentence: VALUES, KINDS, WHOLE and RAW EQUAL of the
 * Terms, and promises 1 to 4 and 13 to 16.
 */
public final class ValuesEdgesTest {
    private static final Class<IllegalArgumentException> ARGUMENT = IllegalArgumentException.class;
    private static final Class<IllegalStateException> STATE = IllegalStateException.class;
    private static final Class<ArithmeticException> ARITHMETIC = ArithmeticException.class;
    private static final Class<UnsupportedOperationException> UNSUPPORTED = UnsupportedOperationException.class;
    private static final double BELOW_2_63 = 0x1.fffffffffffffp62;
    private static final double BELOW_MINUS_2_63 = -0x1.0000000000001p63;
    /** No two are the same VALUE. */
    private static final Object[] VALUES = {Held.NIL, false, true, 0L, 1L, 0.5, 1.5, Held.TABLE, Held.TABLE,
        new Held.Fn(0), new Held.Fn(1)};
    private static final Check check = new Check();

    public static void main(String[] args) {
        calls();
        registers();
        objectsApart();
        ints();
        neverInfinite();
        alwaysANumber();
        neverMinusZero();
        kinds();
        falseAndTrue();
        wholes();
        rawEqual();
        make();
        makeRefused();
        twentyTables();
        real();
        realStepByStep();
        realRefused();
        move();
        whole();
        number();
        count();
        countOfCalls();
        check.end("ValuesEdgesTest");
    }

    private static void calls() {
        check.sentence("An object is used for at most 512 calls after it has been made");
        LuaValues v = Held.with(new Held.Fn(2));
        for (int call = 2; call <= 510; call++) {
            v.call(1, 0, 0, 0);
        }
        check.due("call 511", 509, () -> v.count(3));
        check.due("call 512", 5, () -> v.call(1, 0, 0, 0));
    }

    private static void registers() {
        check.sentence("REGISTERS 0 .. 11 hold VALUES, nil at first.");
        LuaValues v = new LuaValues();
        for (int i = 0; i < 12; i++) {
            int r = i;
            check.due("register " + r, Held.NIL, () -> Held.in(v, r));
        }
        for (int r = 0; r < 12; r++) {
            v.make(r, 2, 100 + r);
        }
        for (int i = 0; i < 12; i++) {
            int r = i;
            check.due("register " + r + " holds its own", 100L + r, () -> Held.in(v, r));
        }
    }

    private static void objectsApart() {
        check.sentence("All REGISTERS nil.");
        LuaValues used = Held.with(Held.TABLE, 5L, new Held.Fn(0));
        used.call(3, 2, 1, 1);
        LuaValues v = new LuaValues();
        for (int i = 0; i < 12; i++) {
            int r = i;
            check.due("register " + r + " of a second object", 0, () -> v.kind(r));
        }
        for (int i = 0; i < 4; i++) {
            int what = i;
            check.due("count " + what + " of a second object", 0, () -> v.count(what));
        }
        check.due("the first TABLE of a second object", 1, () -> v.make(0, 4, 0));
        check.due("the first object's TABLES", 1, () -> used.count(0));
    }

    private static void ints() {
        check.sentence("an INT (64 bits)");
        long[] edges = {Long.MIN_VALUE, Long.MIN_VALUE + 1, -(1L << 32), -1, 0, 1L << 31, 1L << 32, (1L << 53) + 1,
            Long.MAX_VALUE - 1, Long.MAX_VALUE};
        for (long n : edges) {
            LuaValues v = Held.with(n, Held.TABLE);
            check.due("made", n, () -> v.whole(0));
            v.move(2, 0);
            check.due("moved", n, () -> v.whole(2));
            v.set(1, 0, 0, true);
            v.get(3, 1, 0, false);
            check.due("as a VALUE of an ENTRY", n, () -> v.whole(3));
            v.next(4, 1, 11);
            check.due("as a KEY", n, () -> v.whole(4));
        }
    }

    /** The result, or what is thrown; register 2 then holds what it held. */
    private static Object result(int operation, Object a, Object b) {
        LuaValues v = Held.with(a, b, true);
        Object answer = Check.answer(() -> v.arithmetic(operation, 2, 0, 1));
        return answer instanceof String ? Held.in(v, 2).equals(true) ? answer : "a change" : Held.in(v, 2);
    }

    private static void infinite(int operation, Object a, Object b) {
        String what = "operation " + operation + " of " + a + " and " + b;
        check.due(what, Check.thrown(ARITHMETIC), () -> result(operation, a, b));
    }

    private static void neverInfinite() {
        check.sentence("a FLOAT (a double, never infinite, always a number; 0 is never -0)");
        double most = Double.MAX_VALUE;
        // Half a unit of the last place beyond the greatest FLOAT, the sum rounds to an infinite one.
        infinite(0, most, 0x1p970);
        infinite(1, -most, 0x1p970);
        infinite(2, 0x1p1023, 2L);
        infinite(2, -0x1p512, 0x1p512);
        infinite(3, 0x1p1023, 0.5);
        infinite(3, -1L, 0x1p-1074);
        infinite(4, 0x1p1023, 0.5);
        infinite(4, 1L, -0x1p-1074);
        check.due("the greatest sum", most, () -> result(0, most, 0x1p969));
        check.due("the least difference", -most, () -> result(1, -most, 0x1p969));
        check.due("a great product", 0x1p1023, () -> result(2, 0x1p1022, 2L));
        check.due("a great quotient", 0x1p1023, () -> result(3, 0x1p1022, 0.5));
        check.due("the floor of a great quotient", -0x1p1023, () -> result(4, 0x1p1022, -0.5));
        check.due("the greatest turned", -most, () -> result(9, most, most));
    }

    private static void alwaysANumber() {
        check.sentence("always a number");
        int[] exponents = {-300, -1, 0, 1, 300};
        for (int e : exponents) {
            LuaValues v = Held.with(5L);
            Check.answer(() -> v.real(0, Double.NaN, e));
            check.due("after real of no number with e " + e, false, () -> Double.isNaN(v.number(0)));
        }
        check.due("0 / 0", Check.thrown(ARITHMETIC), () -> result(3, 0.0, 0.0));
        check.due("0 // 0", Check.thrown(ARITHMETIC), () -> result(4, 0.0, 0.0));
    }

    private static void neverMinusZero() {
        check.sentence("0 is never -0");
        double least = Double.MIN_VALUE;
        int[] exponents = {-300, -1, 0, 1, 300};
        for (int e : exponents) {
            LuaValues v = new LuaValues();
            v.real(0, -0.0, e);
            check.due("real of -0 with e " + e, 0.0, () -> v.number(0));
        }
        LuaValues halved = new LuaValues();
        halved.real(0, -least, -1);
        check.due("real of the least below 0, halved", 0.0, () -> halved.number(0));
        check.due("0 * -5", 0.0, () -> result(2, 0.0, -5.0));
        check.due("INT 0 * -5", 0.0, () -> result(2, 0L, -5.0));
        check.due("-least * 0.25", 0.0, () -> result(2, -least, 0.25));
        check.due("0 / -4", 0.0, () -> result(3, 0.0, -4L));
        check.due("INT 0 / INT -4", 0.0, () -> result(3, 0L, -4L));
        check.due("-least / 4", 0.0, () -> result(3, -least, 4L));
        check.due("0 // -4", 0.0, () -> result(4, 0.0, -4L));
        check.due("INT 0 // -4.0", 0.0, () -> result(4, 0L, -4.0));
        check.due("negative 0", 0.0, () -> result(9, 0.0, 0.0));
        check.due("-0 + -0", 0.0, () -> result(0, -0.0, -0.0));
        check.due("-0 - 0", 0.0, () -> result(1, -0.0, 0.0));
        LuaValues v = Held.with(Held.TABLE, 1L, -0.0);
        v.set(0, 1, 2, false);
        v.get(3, 0, 1, false);
        check.due("-0 in an ENTRY", 0.0, () -> v.number(3));
    }

    private static void kinds() {
        check.sentence("VALUES: nil; false and true; an INT (64 bits)");
        for (Object value : VALUES) {
            LuaValues v = Held.with(value);
            check.due(value + " is held", value, () -> Held.in(v, 0));
        }
        check.sentence("KINDS are answered as 0 nil, 1 boolean, 2 INT, 3 FLOAT, 4 TABLE, 5 FUNCTION.");
        for (Object value : VALUES) {
            int due = Held.kindOf(value);
            LuaValues v = Held.with(value, Held.TABLE, 7L, new Held.Fn(2));
            check.due("kind of " + value, due, () -> v.kind(0));
            check.due("move of " + value, due, () -> v.move(5, 0));
            check.due("call that gives " + value, due, () -> v.call(5, 3, 3, 0));
            v.set(1, 2, 0, true);
            check.due("get of " + value, due, () -> v.get(5, 1, 2, false));
            check.due("raw get of " + value, due, () -> v.get(5, 1, 2, true));
        }
        check.due("real", 3, () -> new LuaValues().real(0, 4.0, 0));
    }

    private static void falseAndTrue() {
        check.sentence("FALSE are nil and false, all others TRUE.");
        for (Object value : VALUES) {
            boolean due = !value.equals(Held.NIL) && !value.equals(false);
            LuaValues v = Held.with(value, Held.TABLE, Held.TABLE, new Held.Fn(5));
            check.due("FUNCTION 5 of " + value, 1, () -> v.call(5, 3, 0, 2));
            check.due("FUNCTION 5 of " + value, due, () -> Held.in(v, 5));
            Held.entry(v, 2, 4L, new Held.Fn(1));
            Held.entry(v, 2, 5L, new Held.Fn(1));
            v.meta(1, 2);
            check.due("LESS by a HANDLER that gives " + value, due, () -> v.compare(1, 0, 1));
            check.due("LESS OR EQUAL by a HANDLER that gives " + value, due, () -> v.compare(2, 0, 1));
        }
        LuaValues zero = Held.with(0.0, new Held.Fn(5));
        zero.call(2, 1, 0, 0);
        check.due("FUNCTION 5 of 0.0", true, () -> Held.in(zero, 2));
    }

    private static void wholes() {
        check.sentence("A FLOAT is WHOLE if it is a whole number from -2^63 to below 2^63.");
        whole(-0x1p63, Long.MIN_VALUE);
        whole(BELOW_2_63, 9223372036854774784L);
        whole(-BELOW_2_63, -9223372036854774784L);
        whole(0x1p62, 1L << 62);
        whole(0x1p53 + 2, (1L << 53) + 2);
        whole(0x1p52 + 1, (1L << 52) + 1);
        whole(0.0, 0);
        whole(-0.0, 0);
        whole(1.0, 1);
        whole(-1.0, -1);
        double[] others = {0x1p63, BELOW_MINUS_2_63, 0x1p64, -0x1p64, 0x1p1000, -0x1p1000, Double.MAX_VALUE, 0.5,
            -0.5, Double.MIN_VALUE, -Double.MIN_VALUE, 0x1p52 - 0.5, 0x1p51 + 0.5, 1 + 0x1p-52, 1 - 0x1p-53};
        for (double x : others) {
            notWhole(x);
        }
    }

    private static void whole(double x, long n) {
        LuaValues v = Held.with(x, Held.TABLE, -1L);
        check.due("whole of " + x, n, () -> v.whole(0));
        check.due(x + " AND -1", 2, () -> v.arithmetic(6, 3, 0, 2));
        check.due(x + " AND -1", n, () -> v.whole(3));
        v.set(1, 0, 0, true);
        check.due("KEY " + x, 2, () -> v.next(3, 1, 11));
        check.due("KEY " + x, n, () -> v.whole(3));
    }

    private static void notWhole(double x) {
        LuaValues v = Held.with(x, Held.TABLE, -1L);
        check.due("whole of " + x, Check.thrown(ARITHMETIC), () -> v.whole(0));
        check.due(x + " AND -1", Check.thrown(UNSUPPORTED), () -> v.arithmetic(6, 3, 0, 2));
        v.set(1, 0, 0, true);
        check.due("KEY " + x, 3, () -> v.next(3, 1, 11));
        check.due("KEY " + x, x, () -> v.number(3));
    }

    private static void rawEqual() {
        check.sentence("RAW EQUAL are VALUES of the same kind that are the same; and an INT and a FLOAT with the same"
                + " exact value.");
        for (int i = 0; i < VALUES.length; i++) {
            for (int j = 0; j < VALUES.length; j++) {
                if (i != j) {
                    equal(VALUES[i], VALUES[j], false);
                } else if (!VALUES[i].equals(Held.TABLE)) {
                    equal(VALUES[i], VALUES[j], true);
                }
            }
        }
        equal(0L, -0.0, true);
        equal(1L, 1.0, true);
        equal(Long.MIN_VALUE, -0x1p63, true);
        equal(Long.MIN_VALUE + 1, -0x1p63, false);
        equal(Long.MAX_VALUE, 0x1p63, false);
        equal(9223372036854774784L, BELOW_2_63, true);
        equal(Long.MIN_VALUE, BELOW_MINUS_2_63, false);
        equal(1L << 53, 0x1p53, true);
        equal((1L << 53) + 1, 0x1p53, false);
        equal(0L, Double.MIN_VALUE, false);
        equal(0.5, 0.5, true);
        equal(0x1p63, 0x1p63, true);
        equal(0x1p63, 0x1p64, false);
        equal(0.0, Held.NIL, false);
        equal(0.0, false, false);
        LuaValues v = Held.with(Held.TABLE);
        v.move(1, 0);
        check.due("the same TABLE in two registers", true, () -> v.compare(3, 0, 1));
    }

    private static void equal(Object a, Object b, boolean due) {
        LuaValues v = Held.with(a, b);
        check.due(a + " and " + b, due, () -> v.compare(3, 0, 1));
        check.due(b + " and " + a, due, () -> v.compare(3, 1, 0));
        check.due(a + " and " + b + ", EQUAL", due, () -> v.compare(0, 0, 1));
    }

    private static void make() {
        check.sentence("false or true (kind 1, n 0 or not)");
        long[] others = {1, -1, 2, 1L << 32, Long.MIN_VALUE, Long.MAX_VALUE};
        for (long n : others) {
            LuaValues v = Held.with(false);
            check.due("n " + n, 0, () -> v.make(0, 1, n));
            check.due("n " + n, true, () -> Held.in(v, 0));
        }
        LuaValues v = Held.with(true);
        check.due("n 0", 0, () -> v.make(0, 1, 0));
        check.due("n 0", false, () -> Held.in(v, 0));
        check.sentence("or FUNCTION n (5): how many TABLES were made");
        for (long i = 0; i <= 5; i++) {
            long n = i;
            check.due("FUNCTION " + n, 0, () -> v.make(0, 5, n));
            check.due("FUNCTION " + n, new Held.Fn(n), () -> Held.in(v, 0));
        }
        check.due("a TABLE", 1, () -> v.make(1, 4, Long.MIN_VALUE));
        check.due("an INT", 1, () -> v.make(2, 2, 7));
        check.due("a FUNCTION", 1, () -> v.make(2, 5, 0));
        check.due("a boolean", 1, () -> v.make(2, 1, 0));
        check.due("nil", 1, () -> v.make(1, 0, Long.MAX_VALUE));
        check.due("nil is there", Held.NIL, () -> Held.in(v, 1));
        check.due("the second TABLE", 2, () -> v.make(1, 4, 0));
        check.sentence("a new TABLE without METATABLE (4)");
        LuaValues w = Held.with(Held.TABLE, Held.TABLE, 5L);
        Held.entry(w, 1, 1L, new Held.Fn(5));
        w.meta(0, 1);
        w.set(0, 2, 2, true);
        w.make(0, 4, 0);
        check.due("it has no ENTRY", 0L, () -> w.whole(0));
        check.due("it has no METATABLE", 0, () -> w.get(3, 0, 2, false));
    }

    private static void makeRefused() {
        check.sentence("IllegalArgumentException: another kind, or no such FUNCTION.");
        int[] kinds = {-1, 3, 6, 7, Integer.MIN_VALUE, Integer.MAX_VALUE};
        for (int kind : kinds) {
            check.refusedIn("kind " + kind, v -> Held.put(v, 0, 8L), ARGUMENT, v -> v.make(0, kind, 1));
        }
        long[] functions = {-1, 6, 1L << 32, (1L << 32) + 5, Long.MIN_VALUE, Long.MAX_VALUE};
        for (long n : functions) {
            check.refusedIn("FUNCTION " + n, v -> Held.put(v, 0, 8L), ARGUMENT, v -> v.make(0, 5, n));
        }
    }

    private static void twentyTables(LuaValues v) {
        Held.put(v, 1, 2.5);
        for (int i = 0; i < 20; i++) {
            v.make(0, 4, 0);
        }
    }

    private static void twentyTables() {
        check.sentence("IllegalStateException: 20 TABLES were made.");
        LuaValues v = new LuaValues();
        for (int i = 1; i <= 20; i++) {
            int due = i;
            check.due("TABLE " + i, due, () -> v.make(0, 4, 0));
        }
        check.refusedIn("a 21st", ValuesEdgesTest::twentyTables, STATE, w -> w.make(1, 4, 0));
        check.refusedIn("a 21st where the 20th is", ValuesEdgesTest::twentyTables, STATE, w -> w.make(0, 4, 0));
        check.due("nil after the 20th", 20, () -> v.make(0, 0, 0));
        check.due("a 21st when none is held", Check.thrown(STATE), () -> v.make(0, 4, 0));
        check.due("an INT after the 20th", 20, () -> v.make(0, 2, 4));
        check.due("a boolean after the 20th", 20, () -> v.make(0, 1, 1));
        check.due("a FUNCTION after the 20th", 20, () -> v.make(0, 5, 3));
        check.due("no such FUNCTION after the 20th", Check.thrown(ARGUMENT), () -> v.make(0, 5, 6));
        check.due("another kind after the 20th", Check.thrown(ARGUMENT), () -> v.make(0, 3, 0));
    }

    private static void realGives(double x, int e, double due) {
        LuaValues v = new LuaValues();
        check.due("real of " + x + " with e " + e, 3, () -> v.real(0, x, e));
        check.due("real of " + x + " with e " + e, due, () -> v.number(0));
    }

    private static void real() {
        check.sentence("REGISTER r becomes the FLOAT x * 2^e, e of -300 .. 300");
        realGives(1.0, 300, 0x1p300);
        realGives(-1.0, 299, -0x1p299);
        realGives(1.0, -300, 0x1p-300);
        realGives(-3.0, -299, -0x1.8p-298);
        realGives(3.0, 0, 3.0);
        realGives(3.0, 1, 6.0);
        realGives(3.0, -1, 1.5);
        realGives(0.0, 300, 0.0);
        realGives(Double.MAX_VALUE, 0, Double.MAX_VALUE);
        realGives(Double.MAX_VALUE, -1, Double.MAX_VALUE / 2);
        realGives(Double.MIN_VALUE, 300, 0x1p-774);
        check.sentence("IllegalArgumentException: e out of range.");
        int[] outside = {-301, 301, Integer.MIN_VALUE, Integer.MAX_VALUE};
        for (int e : outside) {
            check.refusedIn("e " + e, v -> Held.put(v, 0, 8L), ARGUMENT, v -> v.real(0, 0.0, e));
        }
    }

    private static void realStepByStep() {
        check.sentence("x * 2^e worked out by e multiplications with 2 or 0.5");
        double unit = Double.MIN_VALUE;
        // The halves are rounded to even at each step: 5, 2, 1, 0; in one step 5 / 8 would be 1.
        realGives(5 * unit, -3, 0.0);
        realGives(-5 * unit, -2, -unit);
        // 11, 6 (5.5), 3, 2 (1.5); in one step 11 / 8 would be 1.
        realGives(11 * unit, -3, 2 * unit);
        realGives(unit, -1, 0.0);
        realGives(3 * unit, -1, 2 * unit);
        realGives(0x1p-1000, -74, unit);
        realGives(0x1p-1000, -75, 0.0);
        realGives(0x1p-1000, -300, 0.0);
    }

    private static void realRefused() {
        check.sentence("ArithmeticException: that would be infinite.");
        realGives(0x1p1000, 23, 0x1p1023);
        realGives(-0x1.fffffffffffffp1000, 23, -Double.MAX_VALUE);
        realGives(0x1p723, 300, 0x1p1023);
        double[] tooGreat = {0x1p724, -0x1p724, 0x1p1023, Double.MAX_VALUE, -Double.MAX_VALUE};
        for (double x : tooGreat) {
            check.refusedIn("real of " + x, v -> Held.put(v, 0, 0.25), ARITHMETIC, v -> v.real(0, x, 300));
        }
        check.refusedIn("2^1000 * 2^24", v -> Held.put(v, 0, 0.25), ARITHMETIC, v -> v.real(0, 0x1p1000, 24));
        int[] exponents = {-300, -1, 0, 1, 300};
        for (int e : exponents) {
            check.refusedIn("infinite with e " + e, v -> Held.put(v, 0, 0.25), ARITHMETIC,
                    v -> v.real(0, Double.POSITIVE_INFINITY, e));
            check.refusedIn("infinite below with e " + e, v -> Held.put(v, 0, 0.25), ARITHMETIC,
                    v -> v.real(0, Double.NEGATIVE_INFINITY, e));
        }
    }

    private static void move() {
        check.sentence("REGISTER r becomes what REGISTER a is: the kind.");
        for (Object value : VALUES) {
            LuaValues v = Held.with(value);
            v.make(11, 2, 9);
            check.due("onto another, " + value, Held.kindOf(value), () -> v.move(11, 0));
            check.due("the other then, " + value, value, () -> Held.in(v, 11));
            check.due("the first then, " + value, value, () -> Held.in(v, 0));
            check.due("onto itself, " + value, Held.kindOf(value), () -> v.move(0, 0));
            check.due("itself then, " + value, value, () -> Held.in(v, 0));
            v.make(0, 2, 3);
            check.due("what came after leaves it, " + value, value, () -> Held.in(v, 11));
        }
    }

    private static void whole() {
        check.sentence("An INT; 1 or 0 for a boolean; the number of a FUNCTION; how many ENTRIES a TABLE has; a WHOLE"
                + " FLOAT as an INT; 0 for nil.");
        LuaValues v = Held.with(Held.NIL, false, true, new Held.Fn(0), new Held.Fn(5), Held.TABLE, 3.0);
        long[] due = {0, 0, 1, 0, 5, 0, 3};
        for (int i = 0; i < due.length; i++) {
            int r = i;
            check.due("register " + r, due[r], () -> v.whole(r));
        }
        Held.entries(v, 5, 1, 30);
        check.due("a full TABLE", 30L, () -> v.whole(5));
        check.sentence("ArithmeticException: another FLOAT.");
        double[] others = {0.5, -0.5, 0x1p63, BELOW_MINUS_2_63};
        for (double x : others) {
            check.refusedIn("whole of " + x, w -> Held.put(w, 0, x), ARITHMETIC, w -> w.whole(0));
        }
    }

    private static void number() {
        check.sentence("A FLOAT; an INT as the nearest FLOAT.");
        long[] ints = {0, -1, (1L << 53) - 1, (1L << 53) + 1, (1L << 53) + 3, -(1L << 53) - 1, (1L << 54) + 3,
            Long.MAX_VALUE - 512, Long.MAX_VALUE - 511, Long.MAX_VALUE, Long.MIN_VALUE};
        double[] due = {0.0, -1.0, 0x1p53 - 1, 0x1p53, 0x1p53 + 4, -0x1p53, 0x1p54 + 4, BELOW_2_63, 0x1p63, 0x1p63,
            -0x1p63};
        for (int i = 0; i < ints.length; i++) {
            LuaValues v = Held.with(ints[i]);
            check.due("INT " + ints[i], due[i], () -> v.number(0));
        }
        double[] floats = {0.0, Double.MIN_VALUE, Double.MAX_VALUE, -0x1p63, 1 + 0x1p-52};
        for (double x : floats) {
            LuaValues v = Held.with(x);
            check.due("FLOAT " + x, x, () -> v.number(0));
        }
        check.sentence("UnsupportedOperationException: no number.");
        Object[] others = {Held.NIL, false, true, Held.TABLE, new Held.Fn(0)};
        for (Object other : others) {
            check.refusedIn("number of " + other, v -> Held.put(v, 0, other), UNSUPPORTED, v -> v.number(0));
        }
    }

    private static void count() {
        check.sentence("0: TABLES made; 1: REGISTERS that are not nil; 2: REGISTERS with numbers");
        LuaValues v = new LuaValues();
        for (int r = 0; r < 12; r++) {
            v.make(r, 2, 0);
        }
        check.due("12 INTs", 12, () -> v.count(1));
        check.due("12 INTs", 12, () -> v.count(2));
        for (int r = 0; r < 12; r++) {
            v.real(r, 0.0, 0);
        }
        check.due("12 FLOATs", 12, () -> v.count(1));
        check.due("12 FLOATs", 12, () -> v.count(2));
        Object[] others = {false, true, Held.TABLE, new Held.Fn(0)};
        for (int r = 0; r < others.length; r++) {
            Held.put(v, r, others[r]);
        }
        check.due("4 others among them", 12, () -> v.count(1));
        check.due("4 others among them", 8, () -> v.count(2));
        for (int r = 0; r < 12; r++) {
            v.make(r, 0, 0);
        }
        check.due("all nil", 0, () -> v.count(1));
        check.due("all nil", 0, () -> v.count(2));
        check.due("a TABLE let go", 1, () -> v.count(0));
        check.sentence("Else -1.");
        int[] else1 = {-1, 4, 5, Integer.MIN_VALUE, Integer.MAX_VALUE};
        for (int what : else1) {
            check.due("what " + what, -1, () -> v.count(what));
        }
    }

    private static void countOfCalls() {
        check.sentence("3: CALLs done by FUNCTIONS in calls that did not throw.");
        int[] events = {1, 2, 3, 4, 5, 6, 7, 10, 11, 12, 13, 14, 15, 16, 17, 18, 19};
        for (int event : events) {
            LuaValues v = Held.with(Held.TABLE, Held.TABLE, Held.TABLE, 5L);
            Held.entry(v, 1, (long) event, new Held.Fn(0));
            v.meta(0, 1);
            Check.answer(() -> happen(v, event));
            check.due("once for event " + event, 1, () -> v.count(3));
            Held.entry(v, 1, (long) event, 5L);
            Check.answer(() -> happen(v, event));
            check.due("none for an INT that event " + event + " calls", 1, () -> v.count(3));
        }
        LuaValues chain = Held.chain(7, 7, new Held.Fn(0));
        chain.call(5, 0, 0, 0);
        check.due("one for a chain of TABLES", 1, () -> chain.count(3));
        LuaValues deep = Held.chain(7, 8, new Held.Fn(0));
        Check.answer(() -> deep.call(5, 0, 0, 0));
        check.due("none for a FUNCTION that is too deep", 0, () -> deep.count(3));
        LuaValues raw = Held.with(Held.TABLE, Held.TABLE, 5L);
        Held.entry(raw, 1, 1L, new Held.Fn(0));
        Held.entry(raw, 1, 2L, new Held.Fn(0));
        Held.entry(raw, 1, 3L, new Held.Fn(0));
        raw.meta(0, 1);
        raw.get(3, 0, 2, true);
        raw.compare(3, 0, 1);
        raw.compare(0, 0, 0);
        raw.set(0, 2, 2, true);
        raw.set(0, 2, 2, false);
        raw.get(3, 0, 2, false);
        check.due("none where none is asked", 0, () -> raw.count(3));
        countStays();
    }

    private static void countStays() {
        LuaValues v = Held.with(Held.TABLE, Held.TABLE, 5L, new Held.Fn(0));
        v.call(5, 3, 3, 3);
        Check.Call[] calls = {() -> v.make(4, 4, 0), () -> v.make(4, 0, 0), () -> v.make(3, 2, 1),
            () -> v.real(4, 2.5, 1), () -> v.move(5, 4), () -> v.arithmetic(0, 5, 4, 2), () -> v.compare(0, 0, 1),
            () -> v.set(0, 2, 2, false), () -> v.get(5, 0, 2, false), () -> v.meta(0, 1), () -> v.length(5, 0),
            () -> v.next(5, 0, 11), () -> v.kind(0), () -> v.whole(0), () -> v.number(2), () -> v.count(0),
            () -> v.call(5, 2, 2, 2), () -> v.make(99, 4, 0), () -> v.arithmetic(4, 5, 2, 0)};
        for (int i = 0; i < calls.length; i++) {
            Check.answer(calls[i]);
            check.due("the one of before, after call " + i, 1, () -> v.count(3));
        }
    }

    private static Object happen(LuaValues v, int event) {
        switch (event) {
            case 1:
                return v.get(5, 0, 3, false);
            case 2:
                return v.set(0, 3, 3, false);
            case 3:
            case 4:
            case 5:
                return v.compare(event - 3, 0, 2);
            case 6:
                return v.length(5, 0);
            case 7:
                return v.call(5, 0, 3, 3);
            default:
                return v.arithmetic(event - 10, 5, 0, 3);
        }
    }
}
