import java.math.BigDecimal;
import java.math.RoundingMode;

/** The boundary cases of ARITHMETIC and COMPARING, sentence by sentence: promises 5 and 6. */
public final class NumbersEdgesTest {
    private static final Class<IllegalArgumentException> ARGUMENT = IllegalArgumentException.class;
    private static final String ZERO = Check.thrown(ArithmeticException.class);
    private static final String UNSUPPORTED = Check.thrown(UnsupportedOperationException.class);
    private static final long MIN = Long.MIN_VALUE;
    private static final long MAX = Long.MAX_VALUE;
    private static final double BELOW_2_63 = 0x1.fffffffffffffp62;
    private static final double BELOW_MINUS_2_63 = -0x1.0000000000001p63;
    private static final double LEAST = Double.MIN_VALUE;
    private static final Check check = new Check();

    public static void main(String[] args) {
        wrapping();
        nearestFloat();
        nearestFloatOfBoth();
        infiniteResults();
        quotients();
        floorsOfInts();
        floorsAndRemaindersOfEdges();
        floorsOfFloats();
        remainders();
        bits();
        negatives();
        handlers();
        operandsNotAsSaid();
        handlersThatAreTables();
        noHandler();
        operations();
        exactOrder();
        orderByHandlers();
        orderWithoutHandlers();
        equals();
        whats();
        check.end("NumbersEdgesTest");
    }

    /** The result is due, or the exception and then no change; an operand's register may take the result. */
    private static void due(int operation, Object a, Object b, Object want) {
        for (int place = 0; place < 3; place++) {
            int r = place;
            LuaValues v = Held.with(a, b, true);
            Object before = Held.in(v, r);
            String what = "operation " + operation + " of " + a + " and " + b + " into register " + r;
            Object answer = want instanceof String ? want : (Object) Held.kindOf(want);
            check.due(what, answer, () -> v.arithmetic(operation, r, 0, 1));
            check.due(what + ": then", want instanceof String ? before : want, () -> Held.in(v, r));
        }
    }

    private static void wrapping() {
        check.sentence("ARITHMETIC, operations: 0 + 1 - 2 * : of two INTs wrapping INTs");
        due(0, MAX, 1L, MIN);
        due(0, MIN, -1L, MAX);
        due(0, MIN, MIN, 0L);
        due(0, MAX, MAX, -2L);
        due(0, MAX, 0L, MAX);
        due(1, MIN, 1L, MAX);
        due(1, MAX, -1L, MIN);
        due(1, 0L, MIN, MIN);
        due(1, MIN, MIN, 0L);
        due(2, MIN, -1L, MIN);
        due(2, MAX, MAX, 1L);
        due(2, 1L << 32, 1L << 32, 0L);
        due(2, (1L << 53) + 1, 1L, (1L << 53) + 1);
    }

    private static void nearestFloat() {
        check.sentence("of a FLOAT and a number FLOATs, the INT taken as the nearest FLOAT");
        due(0, (1L << 53) + 1, 0.0, 0x1p53);
        due(0, 0.0, (1L << 53) + 3, 0x1p53 + 4);
        due(0, MAX, 1.0, 0x1p63);
        due(1, MAX, 0x1p63, 0.0);
        due(1, 0x1p63, MAX, 0.0);
        due(1, MIN, -0x1p63, 0.0);
        due(2, (1L << 53) + 1, 1.0, 0x1p53);
        due(2, 1.0, MIN, -0x1p63);
        due(2, 0.5, 4L, 2.0);
        due(0, 1.0, 2.0, 3.0);
        due(1, 2.0, 2L, 0.0);
        due(0, LEAST, LEAST, 2 * LEAST);
        due(2, LEAST, 0.5, 0.0);
        due(2, LEAST, 0.75, LEAST);
    }

    private static void nearestFloatOfBoth() {
        check.sentence("the INT taken as the nearest FLOAT. 3 / : FLOATs always");
        // 2^53 + 1 is three times a whole number; the nearest FLOAT, 2^53, is not.
        long n = (1L << 53) + 1;
        due(3, n, 3.0, 0x1p53 / 3);
        due(3, n, 3L, 0x1p53 / 3);
        due(3, 0x1p53, n, 1.0);
        due(4, n, 3.0, (double) (n / 3 - 1));
        due(4, n, 3L, n / 3);
        due(5, n, 3L, 0L);
    }

    private static void infiniteResults() {
        check.sentence("A FLOAT result that would be infinite: ArithmeticException.");
        double most = Double.MAX_VALUE;
        due(0, most, most, ZERO);
        due(0, -most, -most, ZERO);
        due(1, most, -most, ZERO);
        due(1, -most, most, ZERO);
        due(2, most, 2L, ZERO);
        due(2, MIN, most, ZERO);
        due(3, most, 0.5, ZERO);
        due(3, MAX, LEAST, ZERO);
        due(4, most, -0.5, ZERO);
        due(4, 1L, LEAST, ZERO);
        due(0, most, MAX, most);
        due(1, most, most, 0.0);
        due(2, most, -1L, -most);
        due(3, most, 1L, most);
        due(4, most, 2L, most / 2);
        due(9, -most, 1L, most);
    }

    private static void quotients() {
        check.sentence("3 / : FLOATs always; by 0: ArithmeticException.");
        due(3, 6L, 3L, 2.0);
        due(3, 0L, 7L, 0.0);
        due(3, MIN, -1L, 0x1p63);
        due(3, MAX, 1L, 0x1p63);
        due(3, (1L << 53) + 1, 1.0, 0x1p53);
        due(3, 1L, 3L, 1.0 / 3);
        due(3, LEAST, 2L, 0.0);
        due(3, 1L, 0L, ZERO);
        due(3, 0L, 0L, ZERO);
        due(3, MIN, 0L, ZERO);
        due(3, 1L, 0.0, ZERO);
        due(3, 1L, -0.0, ZERO);
        due(3, 1.5, 0L, ZERO);
        due(3, 0.0, 0.0, ZERO);
        due(3, 1L, LEAST * 0x1p60, 0x1p1014);
    }

    private static void floorsOfInts() {
        check.sentence("4 // : the greatest whole number not above the quotient: of INTs an INT (-2^63 by -1 gives"
                + " -2^63)");
        due(4, MIN, -1L, MIN);
        due(4, MIN, 1L, MIN);
        due(4, MIN, MIN, 1L);
        due(4, MIN, MAX, -2L);
        due(4, MAX, MIN, -1L);
        due(4, MAX, -1L, -MAX);
        due(4, MAX, MAX, 1L);
        due(4, 7L, 2L, 3L);
        due(4, -7L, 2L, -4L);
        due(4, 7L, -2L, -4L);
        due(4, -7L, -2L, 3L);
        due(4, -6L, 2L, -3L);
        due(4, -1L, MAX, -1L);
        due(4, 1L, MAX, 0L);
        due(4, 0L, -5L, 0L);
        due(4, (1L << 53) + 1, 1L, (1L << 53) + 1);
        check.sentence("a FLOAT; by 0: ArithmeticException.");
        due(4, 1L, 0L, ZERO);
        due(4, 0L, 0L, ZERO);
        due(4, MIN, 0L, ZERO);
        due(4, 1L, 0.0, ZERO);
        due(4, 1L, -0.0, ZERO);
        due(4, 1.5, 0L, ZERO);
        due(4, 0.0, 0.0, ZERO);
    }

    private static void floorsAndRemaindersOfEdges() {
        check.sentence("5 % : of INTs alone, with the sign of b: a less b times a // b, wrapping");
        long[] edges = {MIN, MIN + 1, MIN / 2, -(1L << 53) - 1, -10, -3, -2, -1, 1, 2, 3, 10, (1L << 53) + 1, MAX / 2,
            MAX - 1, MAX};
        for (long a : edges) {
            for (long b : edges) {
                BigDecimal floor = BigDecimal.valueOf(a).divide(BigDecimal.valueOf(b), 0, RoundingMode.FLOOR);
                long less = BigDecimal.valueOf(a).subtract(BigDecimal.valueOf(b).multiply(floor)).longValueExact();
                due(4, a, b, floor.toBigInteger().longValue());
                due(5, a, b, less);
            }
        }
    }

    private static void floorsOfFloats() {
        check.sentence("else of the quotient as a FLOAT, a FLOAT");
        due(4, 6.0, 3L, 2.0);
        due(4, 7.0, 2L, 3.0);
        due(4, -7.0, 2L, -4.0);
        due(4, 7L, -2.0, -4.0);
        due(4, -7.0, -2.0, 3.0);
        due(4, 0.5, 1L, 0.0);
        due(4, -0.5, 1L, -1.0);
        due(4, LEAST, 1L, 0.0);
        due(4, -LEAST, 1L, -1.0);
        // The quotient lies below 0; as a FLOAT it is 0.
        due(4, -LEAST, 2L, 0.0);
        // 0.1 is more than a tenth, so the exact quotient lies below 10; as a FLOAT it is 10.
        due(4, 1L, 0.1, 10.0);
        due(4, MIN, -1.0, 0x1p63);
        due(4, MAX, 1.0, 0x1p63);
        due(4, (1L << 53) + 1, 1.0, 0x1p53);
        due(4, 0x1p52 - 0.5, 1L, 0x1p52 - 1);
        due(4, -0x1p52 + 0.5, 1L, -0x1p52);
        due(4, 0x1p51 + 0.5, 1L, 0x1p51);
        due(4, -0x1p51 - 0.5, 1L, -0x1p51 - 1);
        due(4, 0x1p53 + 2, 1L, 0x1p53 + 2);
        due(4, BELOW_2_63, 1L, BELOW_2_63);
        due(4, BELOW_MINUS_2_63, 1L, BELOW_MINUS_2_63);
        due(4, 0x1p1000, 1L, 0x1p1000);
        due(4, Double.MAX_VALUE, -1L, -Double.MAX_VALUE);
    }

    private static void remainders() {
        check.sentence("sign of b: a less b times a // b, wrapping; by 0: ArithmeticException.");
        due(5, 7L, 3L, 1L);
        due(5, -7L, 3L, 2L);
        due(5, 7L, -3L, -2L);
        due(5, -7L, -3L, -1L);
        due(5, 6L, -3L, 0L);
        due(5, -6L, 3L, 0L);
        due(5, MIN, -1L, 0L);
        due(5, MIN, MIN, 0L);
        due(5, MIN, MAX, MAX - 1);
        due(5, MAX, MIN, -1L);
        due(5, 1L, MIN, MIN + 1);
        due(5, -1L, MIN, -1L);
        due(5, -1L, MAX, MAX - 1);
        due(5, MAX, 2L, 1L);
        due(5, 7L, 0L, ZERO);
        due(5, 0L, 0L, ZERO);
        due(5, MIN, 0L, ZERO);
        check.sentence("5 % : of INTs alone");
        due(5, 7.0, 3L, UNSUPPORTED);
        due(5, 7L, 3.0, UNSUPPORTED);
        due(5, 7.0, 3.0, UNSUPPORTED);
        due(5, 7L, 0.0, UNSUPPORTED);
        due(5, 7.0, 0L, UNSUPPORTED);
    }

    private static void bits() {
        check.sentence("6 AND 7 OR 8 XOR: of INTs and WHOLE FLOATs: INTs.");
        due(6, MIN, -1L, MIN);
        due(6, MIN, MAX, 0L);
        due(7, MIN, MAX, -1L);
        due(8, MIN, -1L, MAX);
        due(6, 12L, 10L, 8L);
        due(7, 12L, 10L, 14L);
        due(8, 12L, 10L, 6L);
        due(6, 12.0, 10.0, 8L);
        due(7, 12.0, 10L, 14L);
        due(8, 12L, 10.0, 6L);
        due(7, -0x1p63, 1L, MIN + 1);
        due(7, 0L, BELOW_2_63, 9223372036854774784L);
        due(8, -0.0, 0L, 0L);
        double[] others = {0x1p63, BELOW_MINUS_2_63, 0.5, -0.5, LEAST, 0x1p1000};
        for (double x : others) {
            for (int operation = 6; operation <= 8; operation++) {
                due(operation, x, 1L, UNSUPPORTED);
                due(operation, 1L, x, UNSUPPORTED);
            }
        }
    }

    private static void negatives() {
        check.sentence("9 NEGATIVE: of a (b counts as a).");
        due(9, MIN, 1L, MIN);
        due(9, MAX, 1L, -MAX);
        due(9, 0L, 1L, 0L);
        due(9, 7L, 0.5, -7L);
        due(9, 0.0, 1L, 0.0);
        due(9, 2.5, 1L, -2.5);
        due(9, -Double.MAX_VALUE, 1L, Double.MAX_VALUE);
        Object[] others = {Held.NIL, true, Held.TABLE, new Held.Fn(0)};
        for (Object other : others) {
            due(9, 7L, other, -7L);
            LuaValues v = Held.with(other, 7L);
            check.due("of " + other, UNSUPPORTED, () -> v.arithmetic(9, 2, 0, 1));
        }
        LuaValues v = Held.with(Held.TABLE, Held.TABLE, 7L, true);
        Held.entry(v, 1, 19L, new Held.Fn(2));
        v.meta(0, 1);
        check.due("the HANDLER of b is not asked", UNSUPPORTED, () -> v.arithmetic(9, 5, 3, 0));
        check.due("the HANDLER of a", 4, () -> v.arithmetic(9, 5, 0, 2));
        check.due("it is given a for b", true, () -> v.compare(3, 5, 0));
    }

    /** Registers 0 and 1 TABLES with METATABLES in 2 and 3. */
    private static LuaValues twoTables(long event, Object ofA, Object ofB) {
        LuaValues v = Held.with(Held.TABLE, Held.TABLE, Held.TABLE, Held.TABLE);
        Held.entry(v, 2, event, ofA);
        Held.entry(v, 3, event, ofB);
        v.meta(0, 2);
        v.meta(1, 3);
        return v;
    }

    private static void handlers() {
        check.sentence("with the HANDLER of a for 10 + o, or if that is nil, of b: CALL of it with a and b, at DEPTH 2");
        for (int o = 0; o < 9; o++) {
            int operation = o;
            String what = "operation " + o + ", ";
            LuaValues first = twoTables(10 + o, new Held.Fn(1), new Held.Fn(0));
            check.due(what + "the HANDLER of a comes first", 4, () -> first.arithmetic(operation, 5, 0, 1));
            check.due(what + "it is given a", true, () -> first.compare(3, 5, 0));
            LuaValues second = twoTables(10 + o, Held.NIL, new Held.Fn(2));
            check.due(what + "the HANDLER of b", 4, () -> second.arithmetic(operation, 5, 0, 1));
            check.due(what + "it is given b", true, () -> second.compare(3, 5, 1));
            LuaValues no = twoTables(10 + o, false, new Held.Fn(2));
            check.due(what + "false is not nil", UNSUPPORTED, () -> no.arithmetic(operation, 5, 0, 1));
            LuaValues number = twoTables(10 + o, new Held.Fn(2), Held.NIL);
            number.make(6, 2, 0);
            check.due(what + "a TABLE by 0", 2, () -> number.arithmetic(operation, 5, 0, 6));
            check.due(what + "0 by a TABLE", 4, () -> number.arithmetic(operation, 5, 6, 0));
            check.due(what + "nil and a TABLE", 4, () -> number.arithmetic(operation, 5, 9, 0));
        }
        int[] events = {10, 11, 12, 13, 14, 15, 16, 17, 18, 19};
        for (int event : events) {
            depth(event, 6, 1);
            depth(event, 7, Check.thrown(IllegalStateException.class));
        }
    }

    private static void operandsNotAsSaid() {
        check.sentence("Operands that are not as said (for 5 a FLOAT): with the HANDLER of a for 10 + o, or if that is"
                + " nil, of b");
        Object[] others = {Held.NIL, false, true, 3L, 0L, 0.5, 4.0, 0.0, 0x1p63, new Held.Fn(1)};
        for (int o = 0; o < 9; o++) {
            int operation = o;
            for (Object other : others) {
                String what = "operation " + o + ", a TABLE and " + other;
                LuaValues second = twoTables(10 + o, new Held.Fn(2), Held.NIL);
                Held.put(second, 6, other);
                check.due(what, Held.kindOf(other), () -> second.arithmetic(operation, 5, 0, 6));
                check.due(what + ": then", other, () -> Held.in(second, 5));
                LuaValues first = twoTables(10 + o, new Held.Fn(1), Held.NIL);
                Held.put(first, 6, other);
                check.due(what + " turned", Held.kindOf(other), () -> first.arithmetic(operation, 5, 6, 0));
                check.due(what + " turned: then", other, () -> Held.in(first, 5));
                check.due(what + ": one CALL", 1, () -> first.count(3));
            }
        }
        LuaValues asSaid = twoTables(10, new Held.Fn(0), new Held.Fn(0));
        asSaid.make(6, 2, 3);
        asSaid.arithmetic(0, 5, 6, 6);
        check.due("operands that are as said ask none", 0, () -> asSaid.count(3));
    }

    /** The HANDLER is a TABLE that is called in its turn: with itself and a. */
    private static void handlersThatAreTables() {
        check.sentence("CALL of it with a and b, at DEPTH 2; without one: UnsupportedOperationException.");
        for (int o = 0; o < 9; o++) {
            int operation = o;
            LuaValues second = calling(10 + o, new Held.Fn(2));
            second.make(8, 2, 9);
            check.due("operation " + o + ", the second is a", 2, () -> second.arithmetic(operation, 6, 8, 4));
            check.due("operation " + o + ", the second is a", 9L, () -> Held.in(second, 6));
            LuaValues first = calling(10 + o, new Held.Fn(1));
            check.due("operation " + o + ", the first is the HANDLER", 4, () -> first.arithmetic(operation, 4, 8, 4));
            check.due("operation " + o + ", the first is the HANDLER", true, () -> first.compare(3, 4, 0));
        }
        check.sentence("CALL with a and b at DEPTH 2, whether the result is TRUE");
        for (int i = 1; i <= 2; i++) {
            int what = i;
            LuaValues second = calling(3 + i, new Held.Fn(2));
            check.due("what " + what + ", the second is nil", false, () -> second.compare(what, 8, 4));
            check.due("what " + what + ", the second is a TABLE", true, () -> second.compare(what, 4, 8));
        }
    }

    /** Register 4 a TABLE whose HANDLER for the event is the TABLE in register 0, whose HANDLER for CALL is that. */
    private static LuaValues calling(long event, Object last) {
        LuaValues v = Held.chain(7, 1, last);
        v.make(4, 4, 0);
        v.make(5, 4, 0);
        Held.entryOf(v, 5, event, 0);
        v.meta(4, 5);
        return v;
    }

    /** The HANDLER is called at DEPTH 2, so behind six TABLES a FUNCTION stands at DEPTH 8. */
    private static void depth(int event, int tables, Object want) {
        LuaValues v = Held.chain(7, tables, new Held.Fn(5));
        v.make(4, 4, 0);
        v.make(5, 4, 0);
        Held.entryOf(v, 5, (long) event, 0);
        v.meta(4, 5);
        check.due("event " + event + " behind " + tables + " TABLES", want, () -> v.arithmetic(event - 10, 6, 4, 4));
    }

    private static void noHandler() {
        check.sentence("without one: UnsupportedOperationException.");
        Object[] others = {Held.NIL, false, Held.TABLE, new Held.Fn(1)};
        for (int o = 0; o < 10; o++) {
            int operation = o;
            for (Object other : others) {
                String what = "operation " + o + " with " + other;
                check.refusedIn(what, v -> two(v, other, 3L), UnsupportedOperationException.class,
                        v -> v.arithmetic(operation, 1, 0, 1));
                if (operation != 9) {
                    check.refusedIn(what, v -> two(v, 0L, other), UnsupportedOperationException.class,
                            v -> v.arithmetic(operation, 0, 0, 1));
                }
            }
        }
    }

    private static void two(LuaValues v, Object a, Object b) {
        Held.put(v, 0, a);
        Held.put(v, 1, b);
    }

    private static void operations() {
        check.sentence("IllegalArgumentException: no such operation.");
        int[] none = {-1, 10, 11, Integer.MIN_VALUE, Integer.MAX_VALUE};
        for (int operation : none) {
            check.refusedIn("operation " + operation, v -> two(v, 3L, 4L), ARGUMENT,
                    v -> v.arithmetic(operation, 0, 0, 1));
        }
    }

    private static void order(Object a, Object b, int order) {
        LuaValues v = Held.with(a, b);
        String what = a + " and " + b + ", what ";
        boolean[] due = {order == 0, order < 0, order <= 0, order == 0};
        boolean[] turned = {order == 0, order > 0, order >= 0, order == 0};
        for (int i = 0; i < 4; i++) {
            int asked = i;
            check.due(what + asked, due[asked], () -> v.compare(asked, 0, 1));
            check.due(what + asked + " turned", turned[asked], () -> v.compare(asked, 1, 0));
        }
    }

    private static void exactOrder() {
        check.sentence("COMPARING: numbers by their exact values.");
        order(MIN, MAX, -1);
        order(MIN, MIN, 0);
        order(MAX - 1, MAX, -1);
        order(0L, -0.0, 0);
        order(0L, LEAST, -1);
        order(0L, -LEAST, 1);
        order(-1L, -LEAST, -1);
        order(1L, 1 - 0x1p-53, 1);
        order(1L, 1 + 0x1p-52, -1);
        order(-1L, -1 - 0x1p-52, 1);
        order(2L, 2.5, -1);
        order(3L, 2.5, 1);
        order(-2L, -2.5, 1);
        order(-3L, -2.5, -1);
        order((1L << 53) + 1, 0x1p53, 1);
        order((1L << 53) + 1, 0x1p53 + 2, -1);
        order(-(1L << 53) - 1, -0x1p53, -1);
        order(1L << 53, 0x1p53, 0);
        order(MAX, 0x1p63, -1);
        order(MAX, BELOW_2_63, 1);
        order(9223372036854774784L, BELOW_2_63, 0);
        order(9223372036854774783L, BELOW_2_63, -1);
        order(MIN, -0x1p63, 0);
        order(MIN + 1, -0x1p63, 1);
        order(MIN, BELOW_MINUS_2_63, 1);
        order(MIN, -0x1p1000, 1);
        order(MAX, 0x1p1000, -1);
        order(-Double.MAX_VALUE, Double.MAX_VALUE, -1);
        order(LEAST, 2 * LEAST, -1);
        order(0x1p63, 0x1p63, 0);
        order(-0.0, 0.0, 0);
    }

    private static void orderByHandlers() {
        check.sentence("LESS, LESS OR EQUAL of others: the HANDLER of a, or else of b, for 4 or 5: CALL with a and b at"
                + " DEPTH 2, whether the result is TRUE");
        for (int i = 1; i <= 2; i++) {
            int what = i;
            long event = 3 + i;
            LuaValues first = twoTables(event, new Held.Fn(0), new Held.Fn(1));
            check.due("what " + what + ", the HANDLER of a comes first", false, () -> first.compare(what, 0, 1));
            LuaValues second = twoTables(event, Held.NIL, new Held.Fn(1));
            check.due("what " + what + ", the HANDLER of b", true, () -> second.compare(what, 0, 1));
            second.make(9, 2, 0);
            check.due("what " + what + ", an INT before it", true, () -> second.compare(what, 9, 1));
            check.due("what " + what + ", nil before it", false, () -> second.compare(what, 11, 1));
            LuaValues same = twoTables(event, new Held.Fn(0), Held.NIL);
            check.due("what " + what + " of the same TABLE", false, () -> same.compare(what, 0, 0));
            LuaValues no = twoTables(event, false, new Held.Fn(1));
            check.due("what " + what + ", false is not nil", UNSUPPORTED, () -> no.compare(what, 0, 1));
            LuaValues b = twoTables(event, new Held.Fn(2), Held.NIL);
            check.due("what " + what + ", it is given b", false, () -> b.compare(what, 0, 11));
            compareDepth(what, event, 6, true);
            compareDepth(what, event, 7, Check.thrown(IllegalStateException.class));
        }
    }

    private static void compareDepth(int what, long event, int tables, Object want) {
        LuaValues v = Held.chain(7, tables, new Held.Fn(5));
        v.make(4, 4, 0);
        v.make(5, 4, 0);
        Held.entryOf(v, 5, event, 0);
        v.meta(4, 5);
        check.due("what " + what + " behind " + tables + " TABLES", want, () -> v.compare(what, 4, 5));
    }

    private static void orderWithoutHandlers() {
        check.sentence("without one UnsupportedOperationException. EQUAL: RAW EQUAL");
        Object[] others = {Held.NIL, false, true, Held.TABLE, new Held.Fn(1)};
        for (int i = 1; i <= 2; i++) {
            int what = i;
            for (Object other : others) {
                check.refusedIn("what " + what + " of " + other + " and an INT", v -> two(v, other, 3L),
                        UnsupportedOperationException.class, v -> v.compare(what, 0, 1));
                check.refusedIn("what " + what + " of a FLOAT and " + other, v -> two(v, 0.5, other),
                        UnsupportedOperationException.class, v -> v.compare(what, 0, 1));
                check.refusedIn("what " + what + " of itself, " + other, v -> two(v, other, other),
                        UnsupportedOperationException.class, v -> v.compare(what, 0, 0));
            }
        }
    }

    private static void equals() {
        check.sentence("or if both are TABLES, with the HANDLER of a, or else of b, for 3: whether its CALL with a and"
                + " b, at DEPTH 2, gives TRUE");
        LuaValues first = twoTables(3, new Held.Fn(0), new Held.Fn(1));
        check.due("the HANDLER of a comes first", false, () -> first.compare(0, 0, 1));
        check.due("turned, that of b", true, () -> first.compare(0, 1, 0));
        check.due("the same TABLE is RAW EQUAL", true, () -> first.compare(0, 0, 0));
        check.due("RAW EQUAL asks none", false, () -> first.compare(3, 1, 0));
        LuaValues second = twoTables(3, Held.NIL, new Held.Fn(2));
        check.due("or else of b", true, () -> second.compare(0, 0, 1));
        LuaValues no = twoTables(3, false, new Held.Fn(1));
        check.due("false is not nil", UNSUPPORTED, () -> no.compare(0, 0, 1));
        LuaValues zero = twoTables(3, new Held.Fn(4), Held.NIL);
        check.due("the result INT 0 is TRUE", true, () -> zero.compare(0, 0, 1));
        LuaValues given = twoTables(3, new Held.Fn(3), Held.NIL);
        check.due("the result nil is FALSE", false, () -> given.compare(0, 0, 1));
        given.make(5, 1, 0);
        given.set(0, 1, 5, true);
        check.due("the result false is FALSE", false, () -> given.compare(0, 0, 1));
        given.real(5, 0.0, 0);
        given.set(0, 1, 5, true);
        check.due("the result 0.0 is TRUE", true, () -> given.compare(0, 0, 1));
        LuaValues none = twoTables(3, Held.NIL, Held.NIL);
        check.due("without one", false, () -> none.compare(0, 0, 1));
        Object[] others = {Held.NIL, false, 0L, 0.5, new Held.Fn(1)};
        LuaValues v = twoTables(3, new Held.Fn(1), new Held.Fn(1));
        for (Object other : others) {
            Held.put(v, 5, other);
            check.due("a TABLE and " + other, false, () -> v.compare(0, 0, 5));
            check.due(other + " and a TABLE", false, () -> v.compare(0, 5, 0));
        }
        check.due("no CALL for these", 0, () -> v.count(3));
        compareDepth(0, 3, 6, true);
        compareDepth(0, 3, 7, Check.thrown(IllegalStateException.class));
    }

    private static void whats() {
        check.sentence("IllegalArgumentException: no such what.");
        int[] none = {-1, 4, 5, Integer.MIN_VALUE, Integer.MAX_VALUE};
        for (int what : none) {
            check.refusedIn("what " + what, v -> two(v, 3L, 4L), ARGUMENT, v -> v.compare(what, 0, 1));
        }
    }
}
