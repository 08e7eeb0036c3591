/** Promises 1 to 4 and 13 to 16: a new object, make, real, move, kind, whole, number, count. */
public final class RegistersTest {
    private static final Class<IndexOutOfBoundsException> INDEX = IndexOutOfBoundsException.class;
    private static final Class<IllegalArgumentException> ARGUMENT = IllegalArgumentException.class;
    private static final Class<IllegalStateException> STATE = IllegalStateException.class;
    private static final Class<ArithmeticException> ARITHMETIC = ArithmeticException.class;
    private static final Class<UnsupportedOperationException> UNSUPPORTED = UnsupportedOperationException.class;
    private static final Check check = new Check();

    public static void main(String[] args) {
        newObject();
        make();
        makeRefused();
        twentyTables();
        real();
        realAtTheEdges();
        realRefused();
        move();
        whole();
        number();
        count();
        check.end("RegistersTest");
    }

    private static void newObject() {
        LuaValues v = new LuaValues();
        for (int r = 0; r < 12; r++) {
            int register = r;
            check.due("1 kind of a new register", 0, () -> v.kind(register));
            check.due("1 whole of a new register", 0L, () -> v.whole(register));
        }
        for (int what = 0; what < 4; what++) {
            int asked = what;
            check.due("1 count of a new object", 0, () -> v.count(asked));
        }
    }

    private static void make() {
        LuaValues v = new LuaValues();
        check.due("2 make INT", 0, () -> v.make(0, 2, Long.MIN_VALUE));
        check.due("2 kind INT", 2, () -> v.kind(0));
        check.due("2 whole INT", Long.MIN_VALUE, () -> v.whole(0));
        check.due("2 make false", 0, () -> v.make(1, 1, 0));
        check.due("2 kind false", 1, () -> v.kind(1));
        check.due("2 whole false", 0L, () -> v.whole(1));
        check.due("2 make true", 0, () -> v.make(1, 1, -9));
        check.due("2 whole true", 1L, () -> v.whole(1));
        check.due("2 make true of a high bit", 0, () -> v.make(1, 1, 1L << 32));
        check.due("2 whole true of a high bit", 1L, () -> v.whole(1));
        check.due("2 make FUNCTION", 0, () -> v.make(2, 5, 5));
        check.due("2 kind FUNCTION", 5, () -> v.kind(2));
        check.due("2 whole FUNCTION", 5L, () -> v.whole(2));
        check.due("2 make TABLE", 1, () -> v.make(11, 4, 77));
        check.due("2 kind TABLE", 4, () -> v.kind(11));
        check.due("2 whole TABLE", 0L, () -> v.whole(11));
        check.due("2 make nil", 1, () -> v.make(11, 0, 77));
        check.due("2 kind nil", 0, () -> v.kind(11));
        check.due("2 a table let go counts on", 2, () -> v.make(11, 4, 0));
    }

    private static void makeRefused() {
        LuaValues v = new LuaValues();
        v.make(0, 2, 8);
        check.refused("2 kind 3", v, ARGUMENT, () -> v.make(0, 3, 0));
        check.refused("2 kind 6", v, ARGUMENT, () -> v.make(0, 6, 0));
        check.refused("2 kind -1", v, ARGUMENT, () -> v.make(0, -1, 0));
        check.refused("2 FUNCTION 6", v, ARGUMENT, () -> v.make(0, 5, 6));
        check.refused("2 FUNCTION -1", v, ARGUMENT, () -> v.make(0, 5, -1));
        check.refused("2 FUNCTION of a high bit", v, ARGUMENT, () -> v.make(0, 5, 1L << 32));
        check.refused("2 register 12 before kind", v, INDEX, () -> v.make(12, 3, 0));
        check.refused("2 register -1", v, INDEX, () -> v.make(-1, 2, 0));
    }

    private static void twentyTables() {
        LuaValues v = new LuaValues();
        for (int i = 1; i <= 20; i++) {
            int due = i;
            check.due("2 table " + i, due, () -> v.make(0, 4, 0));
        }
        check.refused("2 table 21", v, STATE, () -> v.make(1, 4, 0));
        check.refused("2 table 21 in no register", v, INDEX, () -> v.make(12, 4, 0));
        check.due("2 others after 20 tables", 20, () -> v.make(1, 2, 5));
    }

    private static void real() {
        LuaValues v = new LuaValues();
        check.due("3 kind", 3, () -> v.real(0, 1.5, 3));
        check.due("3 value", 12.0, () -> v.number(0));
        check.due("3 down", 3, () -> v.real(0, -20.0, -3));
        check.due("3 value down", -2.5, () -> v.number(0));
        check.due("3 most", 3, () -> v.real(0, 1.0, 300));
        check.due("3 value of the most", 0x1p300, () -> v.number(0));
        check.due("3 least", 3, () -> v.real(0, 1.0, -300));
        check.due("3 value of the least", 0x1p-300, () -> v.number(0));
    }

    private static void realAtTheEdges() {
        LuaValues v = new LuaValues();
        check.due("3 -0", 3, () -> v.real(0, -0.0, 0));
        check.due("3 -0 is 0", 0.0, () -> v.number(0));
        check.due("3 -0 doubled", 3, () -> v.real(0, -0.0, 7));
        check.due("3 -0 doubled is 0", 0.0, () -> v.number(0));
        check.due("3 small", 3, () -> v.real(0, -0x1p-1000, -300));
        check.due("3 too small is 0", 0.0, () -> v.number(0));
        check.due("3 smallest", 3, () -> v.real(0, 0x1p-1000, -74));
        check.due("3 smallest is kept", Double.MIN_VALUE, () -> v.number(0));
        // 7 units of the last place: halved to 4 (3.5), 2, 1; in one step it would be 7 / 8, also 1.
        check.due("3 step by step", 3, () -> v.real(0, 7 * Double.MIN_VALUE, -3));
        check.due("3 rounded at each step", Double.MIN_VALUE, () -> v.number(0));
        // 5 units: halved to 2 (2.5), 1, 0 (0.5); in one step it would be 5 / 8, 1.
        check.due("3 step by step to 0", 3, () -> v.real(0, 5 * Double.MIN_VALUE, -3));
        check.due("3 rounded at each step to 0", 0.0, () -> v.number(0));
        check.due("3 greatest", 3, () -> v.real(0, -Double.MAX_VALUE, 0));
        check.due("3 greatest is kept", -Double.MAX_VALUE, () -> v.number(0));
    }

    private static void realRefused() {
        LuaValues v = new LuaValues();
        v.make(0, 2, 8);
        check.refused("3 e 301", v, ARGUMENT, () -> v.real(0, 1.0, 301));
        check.refused("3 e -301", v, ARGUMENT, () -> v.real(0, 1.0, -301));
        check.refused("3 e least int", v, ARGUMENT, () -> v.real(0, 1.0, Integer.MIN_VALUE));
        check.refused("3 e before infinite", v, ARGUMENT, () -> v.real(0, Double.MAX_VALUE, 301));
        check.refused("3 register before e", v, INDEX, () -> v.real(12, 1.0, 301));
        check.refused("3 register -1", v, INDEX, () -> v.real(-1, 1.0, 0));
        check.refused("3 too great", v, ARITHMETIC, () -> v.real(0, 0x1p1000, 24));
        check.refused("3 too far below", v, ARITHMETIC, () -> v.real(0, -Double.MAX_VALUE, 1));
        check.refused("3 infinite", v, ARITHMETIC, () -> v.real(0, Double.POSITIVE_INFINITY, 0));
        check.refused("3 infinite halved", v, ARITHMETIC, () -> v.real(0, Double.NEGATIVE_INFINITY, -300));
    }

    private static void move() {
        LuaValues v = new LuaValues();
        v.make(0, 4, 0);
        v.real(1, 2.5, 0);
        check.due("4 a TABLE", 4, () -> v.move(2, 0));
        check.due("4 the same TABLE", true, () -> v.compare(3, 0, 2));
        v.set(2, 1, 1, true);
        check.due("4 the same ENTRIES", 1L, () -> v.whole(0));
        check.due("4 a FLOAT", 3, () -> v.move(11, 1));
        check.due("4 its value", 2.5, () -> v.number(11));
        check.due("4 its source stays", 2.5, () -> v.number(1));
        check.due("4 onto itself", 3, () -> v.move(1, 1));
        check.due("4 nil", 0, () -> v.move(11, 5));
        check.due("4 nil is there", 0, () -> v.kind(11));
        check.refused("4 register 12", v, INDEX, () -> v.move(12, 0));
        check.refused("4 source 12", v, INDEX, () -> v.move(0, 12));
        check.refused("4 source -1", v, INDEX, () -> v.move(0, -1));
        check.refused("13 register 12", v, INDEX, () -> v.kind(12));
        check.refused("13 register -1", v, INDEX, () -> v.kind(-1));
    }

    private static void whole() {
        LuaValues v = new LuaValues();
        v.real(0, -0x1p63, 0);
        check.due("14 -2^63", Long.MIN_VALUE, () -> v.whole(0));
        v.real(0, 0x1p63, 0);
        check.refused("14 2^63", v, ARITHMETIC, () -> v.whole(0));
        v.real(0, 0x1.fffffffffffffp62, 0);
        check.due("14 below 2^63", 9223372036854774784L, () -> v.whole(0));
        v.real(0, -0x1.0000000000001p63, 0);
        check.refused("14 below -2^63", v, ARITHMETIC, () -> v.whole(0));
        v.real(0, 2.5, 0);
        check.refused("14 2.5", v, ARITHMETIC, () -> v.whole(0));
        v.real(0, -0.25, 0);
        check.refused("14 -0.25", v, ARITHMETIC, () -> v.whole(0));
        v.real(0, -3.0, 0);
        check.due("14 -3.0", -3L, () -> v.whole(0));
        check.refused("14 register 12", v, INDEX, () -> v.whole(12));
        check.refused("14 register -1", v, INDEX, () -> v.whole(-1));
    }

    private static void number() {
        LuaValues v = new LuaValues();
        v.make(0, 2, Long.MAX_VALUE);
        check.due("15 nearest above", 0x1p63, () -> v.number(0));
        v.make(0, 2, (1L << 53) + 1);
        check.due("15 nearest, even", 0x1p53, () -> v.number(0));
        v.make(0, 2, (1L << 53) + 3);
        check.due("15 nearest, even above", 0x1p53 + 4, () -> v.number(0));
        v.make(0, 2, 0);
        check.due("15 0", 0.0, () -> v.number(0));
        check.refused("15 nil", v, UNSUPPORTED, () -> v.number(1));
        v.make(1, 1, 1);
        check.refused("15 true", v, UNSUPPORTED, () -> v.number(1));
        v.make(1, 4, 0);
        check.refused("15 TABLE", v, UNSUPPORTED, () -> v.number(1));
        v.make(1, 5, 0);
        check.refused("15 FUNCTION", v, UNSUPPORTED, () -> v.number(1));
        check.refused("15 register 12", v, INDEX, () -> v.number(12));
        check.refused("15 register -1", v, INDEX, () -> v.number(-1));
    }

    private static void count() {
        LuaValues v = new LuaValues();
        v.make(0, 1, 0);
        v.make(1, 2, 0);
        v.real(2, 0.0, 0);
        v.make(3, 4, 0);
        v.make(4, 5, 0);
        v.make(5, 0, 0);
        check.due("16 TABLES", 1, () -> v.count(0));
        check.due("16 not nil", 5, () -> v.count(1));
        check.due("16 numbers", 2, () -> v.count(2));
        check.due("16 CALLs", 0, () -> v.count(3));
        v.call(5, 4, 0, 0);
        v.call(5, 4, 0, 0);
        check.due("16 CALLs done", 2, () -> v.count(3));
        check.refused("16 CALL of no function", v, UNSUPPORTED, () -> v.call(5, 3, 0, 0));
        check.due("16 CALLs that threw", 2, () -> v.count(3));
        check.due("16 what 4", -1, () -> v.count(4));
        check.due("16 what -1", -1, () -> v.count(-1));
    }
}
