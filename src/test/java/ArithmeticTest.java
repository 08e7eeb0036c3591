/** Promise 5: arithmetic of INTs and FLOATs, and what is refused. */
public final class ArithmeticTest {
    private static final int INT = 2;
    private static final int FLOAT = 3;
    private static final String ZERO_OR_INFINITE = Check.thrown(ArithmeticException.class);
    private static final String UNSUPPORTED = Check.thrown(UnsupportedOperationException.class);
    private static final Check check = new Check();

    public static void main(String[] args) {
        ints();
        wrapping();
        floorsOfInts();
        mixed();
        divisions();
        floorsOfFloats();
        bits();
        negatives();
        infinite();
        handlers();
        wrongInputs();
        check.end("ArithmeticTest");
    }

    private static void put(LuaValues v, int r, Object number) {
        if (number instanceof Long) {
            v.make(r, 2, (Long) number);
        } else {
            v.real(r, (Double) number, 0);
        }
    }

    /** What it answers and what the register holds then; it holds what it held after a throw. */
    private static void due(int operation, Object a, Object b, Object want) {
        LuaValues v = new LuaValues();
        put(v, 0, a);
        put(v, 1, b);
        String what = "5 operation " + operation + " of " + a + " and " + b;
        if (want instanceof String) {
            check.due(what, want, () -> v.arithmetic(operation, 2, 0, 1));
            check.due(what + " changes nothing", 0, () -> v.kind(2));
        } else if (want instanceof Long) {
            check.due(what, INT, () -> v.arithmetic(operation, 2, 0, 1));
            check.due(what, want, () -> v.whole(2));
        } else {
            check.due(what, FLOAT, () -> v.arithmetic(operation, 2, 0, 1));
            check.due(what, want, () -> v.number(2));
        }
    }

    private static void ints() {
        due(0, 7L, -2L, 5L);
        due(1, 7L, -2L, 9L);
        due(2, 7L, -2L, -14L);
        due(3, 7L, -2L, -3.5);
        due(3, 6L, 2L, 3.0);
        due(4, 7L, -2L, -4L);
        due(4, 7L, 2L, 3L);
        due(5, 7L, -2L, -1L);
        due(5, -7L, 2L, 1L);
        due(5, -7L, -2L, -1L);
        due(5, 6L, -2L, 0L);
    }

    private static void wrapping() {
        due(0, Long.MAX_VALUE, 1L, Long.MIN_VALUE);
        due(1, Long.MIN_VALUE, 1L, Long.MAX_VALUE);
        due(2, Long.MAX_VALUE, 2L, -2L);
        due(9, Long.MIN_VALUE, 0L, Long.MIN_VALUE);
    }

    private static void floorsOfInts() {
        due(4, Long.MIN_VALUE, -1L, Long.MIN_VALUE);
        due(5, Long.MIN_VALUE, -1L, 0L);
        due(4, Long.MIN_VALUE, Long.MAX_VALUE, -2L);
        due(5, Long.MIN_VALUE, Long.MAX_VALUE, Long.MAX_VALUE - 1);
        due(5, Long.MAX_VALUE, Long.MIN_VALUE, -1L);
        due(4, -1L, Long.MAX_VALUE, -1L);
        due(4, 0L, -5L, 0L);
        due(4, 5L, 0L, ZERO_OR_INFINITE);
        due(5, 5L, 0L, ZERO_OR_INFINITE);
        due(4, 0L, 0L, ZERO_OR_INFINITE);
    }

    private static void mixed() {
        due(0, 1L, 0.5, 1.5);
        due(1, 0.5, 1L, -0.5);
        due(2, 3L, 0.5, 1.5);
        due(0, 1.0, 2.0, 3.0);
        due(0, (1L << 53) + 1, 0.0, 0x1p53);
        due(1, Long.MAX_VALUE, 0x1p63, 0.0);
        due(2, 0L, -5.0, 0.0);
        due(2, -0x1p-600, 0x1p-600, 0.0);
    }

    private static void divisions() {
        due(3, 1L, 4L, 0.25);
        due(3, 0L, -4L, 0.0);
        due(3, Long.MIN_VALUE, -1L, 0x1p63);
        due(3, (1L << 53) + 1, 1L, 0x1p53);
        due(3, 1.0, 3L, 1.0 / 3.0);
        due(3, 1L, 0L, ZERO_OR_INFINITE);
        due(3, 1.0, 0L, ZERO_OR_INFINITE);
        due(3, 1L, 0.0, ZERO_OR_INFINITE);
        due(3, 0.0, 0.0, ZERO_OR_INFINITE);
        due(3, -0x1p-1000, 0x1p1000, 0.0);
    }

    private static void floorsOfFloats() {
        due(4, 7.0, 2L, 3.0);
        due(4, -7L, 2.0, -4.0);
        due(4, -0.5, 1L, -1.0);
        due(4, 0.5, 1L, 0.0);
        due(4, 6.0, -2L, -3.0);
        due(4, 0x1p900, 1L, 0x1p900);
        due(4, -0x1p900, 1L, -0x1p900);
        due(4, 0x1p52 - 0.5, 1L, 0x1p52 - 1);
        due(4, -0x1p52 + 0.5, 1L, -0x1p52);
        due(4, Long.MIN_VALUE, -1.0, 0x1p63);
        // The exact quotient is below 0; as a FLOAT it is 0.
        due(4, -0x1p-1000, 0x1p1000, 0.0);
        // 1 / 0.1 rounds to 10, though 0.1 as a FLOAT is a little more than a tenth.
        due(4, 1L, 0.1, 10.0);
        due(4, 1.0, 0L, ZERO_OR_INFINITE);
        due(4, 1L, 0.0, ZERO_OR_INFINITE);
        due(4, 0.0, 0.0, ZERO_OR_INFINITE);
    }

    private static void bits() {
        due(6, 12L, 10L, 8L);
        due(7, 12L, 10L, 14L);
        due(8, 12L, 10L, 6L);
        due(6, -1L, 20.0, 20L);
        due(7, 8.0, 1.0, 9L);
        due(8, -0x1p63, -1L, Long.MAX_VALUE);
        due(6, 0x1p63, 1L, UNSUPPORTED);
        due(7, 1L, 0.5, UNSUPPORTED);
        due(8, 0.5, 1L, UNSUPPORTED);
        due(5, 7.0, 2L, UNSUPPORTED);
        due(5, 7L, 2.0, UNSUPPORTED);
        due(5, 7.0, 0L, UNSUPPORTED);
    }

    private static void negatives() {
        due(9, 7L, 3.5, -7L);
        due(9, 2.5, 7L, -2.5);
        due(9, 0.0, 7L, 0.0);
        due(9, 0L, 7.0, 0L);
        LuaValues v = new LuaValues();
        v.make(0, 2, 7);
        v.make(1, 4, 0);
        check.due("5 NEGATIVE looks at a alone", 2, () -> v.arithmetic(9, 2, 0, 1));
        check.due("5 NEGATIVE of 7", -7L, () -> v.whole(2));
        check.due("5 NEGATIVE of a TABLE", UNSUPPORTED, () -> v.arithmetic(9, 2, 1, 0));
    }

    private static void infinite() {
        due(0, Double.MAX_VALUE, Double.MAX_VALUE, ZERO_OR_INFINITE);
        due(1, -Double.MAX_VALUE, Double.MAX_VALUE, ZERO_OR_INFINITE);
        due(2, 0x1p600, -0x1p600, ZERO_OR_INFINITE);
        due(3, 0x1p600, 0x1p-600, ZERO_OR_INFINITE);
        due(4, 0x1p600, -0x1p-600, ZERO_OR_INFINITE);
        due(0, Double.MAX_VALUE, 1L, Double.MAX_VALUE);
    }

    /** Registers 0 and 1: TABLES with METATABLES in 2 and 3; 4 an INT; 5 and 6 the FUNCTIONS 1 and 2. */
    private static LuaValues twoTables() {
        LuaValues v = new LuaValues();
        for (int r = 0; r < 4; r++) {
            v.make(r, 4, 0);
        }
        v.meta(0, 2);
        v.meta(1, 3);
        v.make(4, 2, 40);
        v.make(5, 5, 1);
        v.make(6, 5, 2);
        return v;
    }

    private static void say(LuaValues v, int metatable, int operation, int handler) {
        v.make(11, 2, 10 + operation);
        v.set(metatable, 11, handler, true);
        v.make(11, 0, 0);
    }

    private static void handlers() {
        for (int o = 0; o < 10; o++) {
            int operation = o;
            LuaValues v = twoTables();
            check.due("5 no HANDLER " + o, UNSUPPORTED, () -> v.arithmetic(operation, 7, 1, 4));
            if (operation != 9) {
                say(v, 3, operation, 5);
                check.due("5 HANDLER of b " + o, 2, () -> v.arithmetic(operation, 7, 4, 1));
                check.due("5 it gives a " + o, 40L, () -> v.whole(7));
            }
            say(v, 2, operation, 6);
            check.due("5 HANDLER of a " + o, 4, () -> v.arithmetic(operation, 7, 0, 1));
            check.due("5 it gives b " + o, true, () -> v.compare(3, 7, operation == 9 ? 0 : 1));
        }
        LuaValues v = twoTables();
        say(v, 2, 5, 6);
        v.real(8, 0.5, 0);
        check.due("5 a FLOAT and a HANDLER of b", 4, () -> v.arithmetic(5, 7, 8, 0));
        v.make(8, 1, 0);
        say(v, 2, 0, 8);
        say(v, 3, 0, 5);
        check.due("5 a HANDLER that is false", UNSUPPORTED, () -> v.arithmetic(0, 7, 0, 1));
    }

    private static void wrongInputs() {
        LuaValues v = new LuaValues();
        v.make(0, 2, 7);
        Class<IndexOutOfBoundsException> index = IndexOutOfBoundsException.class;
        Class<IllegalArgumentException> argument = IllegalArgumentException.class;
        check.refused("5 operation 10", v, argument, () -> v.arithmetic(10, 0, 0, 0));
        check.refused("5 operation -1", v, argument, () -> v.arithmetic(-1, 0, 0, 0));
        check.refused("5 operation before operands", v, argument, () -> v.arithmetic(10, 0, 5, 5));
        check.refused("5 r before operation", v, index, () -> v.arithmetic(10, 12, 0, 0));
        check.refused("5 a", v, index, () -> v.arithmetic(0, 0, -1, 0));
        check.refused("5 b", v, index, () -> v.arithmetic(0, 0, 0, 12));
        check.refused("5 b of NEGATIVE", v, index, () -> v.arithmetic(9, 0, 0, 12));
        check.refused("5 nil", v, UnsupportedOperationException.class, () -> v.arithmetic(0, 0, 0, 5));
        check.due("5 into an operand", 2, () -> v.arithmetic(0, 0, 0, 0));
        check.due("5 into an operand", 14L, () -> v.whole(0));
    }
}
