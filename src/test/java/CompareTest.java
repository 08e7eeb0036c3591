/** Promise 6: compare. */
public final class CompareTest {
    private static final String UNSUPPORTED = Check.thrown(UnsupportedOperationException.class);
    private static final Check check = new Check();

    public static void main(String[] args) {
        numbers();
        otherKinds();
        tables();
        orderByHandlers();
        wrongInputs();
        check.end("CompareTest");
    }

    private static void put(LuaValues v, int r, Object number) {
        if (number instanceof Long) {
            v.make(r, 2, (Long) number);
        } else {
            v.real(r, (Double) number, 0);
        }
    }

    private static void order(Object a, Object b, int order) {
        LuaValues v = new LuaValues();
        put(v, 0, a);
        put(v, 1, b);
        String what = "6 " + a + " and " + b + ", what ";
        check.due(what + 0, order == 0, () -> v.compare(0, 0, 1));
        check.due(what + 1, order < 0, () -> v.compare(1, 0, 1));
        check.due(what + 2, order <= 0, () -> v.compare(2, 0, 1));
        check.due(what + 3, order == 0, () -> v.compare(3, 0, 1));
        check.due(what + "0 turned", order == 0, () -> v.compare(0, 1, 0));
        check.due(what + "1 turned", order > 0, () -> v.compare(1, 1, 0));
        check.due(what + "2 turned", order >= 0, () -> v.compare(2, 1, 0));
        check.due(what + "3 turned", order == 0, () -> v.compare(3, 1, 0));
    }

    private static void numbers() {
        order(1L, 2L, -1);
        order(Long.MIN_VALUE, Long.MAX_VALUE, -1);
        order(5L, 5L, 0);
        order(1.5, 2.5, -1);
        order(-0.0, 0.0, 0);
        order(2L, 2.0, 0);
        order(2L, 2.5, -1);
        order(3L, 2.5, 1);
        order(-2L, -2.5, 1);
        order(-3L, -2.5, -1);
        order(0L, -0.5, 1);
        order(0L, 0.5, -1);
        order(0L, Double.MIN_VALUE, -1);
        order((1L << 53) + 1, 0x1p53, 1);
        order(-(1L << 53) - 1, -0x1p53, -1);
        order(1L << 53, 0x1p53, 0);
        order(Long.MAX_VALUE, 0x1p63, -1);
        order(Long.MAX_VALUE, 0x1.fffffffffffffp62, 1);
        order(Long.MIN_VALUE, -0x1p63, 0);
        order(Long.MIN_VALUE + 1, -0x1p63, 1);
        order(Long.MIN_VALUE, -0x1.0000000000001p63, 1);
        order(Long.MAX_VALUE, 0x1p900, -1);
        order(Long.MIN_VALUE, -0x1p900, 1);
    }

    private static void otherKinds() {
        LuaValues v = new LuaValues();
        v.make(1, 1, 0);
        v.make(2, 1, 1);
        v.make(3, 2, 0);
        v.make(4, 2, 1);
        v.real(5, 1.5, 0);
        v.make(6, 5, 0);
        v.make(7, 5, 1);
        v.make(8, 4, 0);
        v.make(9, 4, 0);
        for (int a = 0; a < 10; a++) {
            for (int b = 0; b < 10; b++) {
                int left = a;
                int right = b;
                boolean numbers = a >= 3 && a <= 5 && b >= 3 && b <= 5;
                String what = "6 registers " + a + " and " + b;
                check.due(what + " EQUAL", a == b, () -> v.compare(0, left, right));
                check.due(what + " RAW EQUAL", a == b, () -> v.compare(3, left, right));
                check.due(what + " LESS", numbers ? (Object) (a < b) : UNSUPPORTED, () -> v.compare(1, left, right));
                check.due(what + " LESS OR EQUAL", numbers ? (Object) (a <= b) : UNSUPPORTED,
                        () -> v.compare(2, left, right));
            }
        }
        v.make(10, 5, 1);
        check.due("6 FUNCTIONS made twice", true, () -> v.compare(3, 7, 10));
        v.make(10, 1, -4);
        check.due("6 true made twice", true, () -> v.compare(3, 2, 10));
    }

    /** Registers 0 and 1 TABLES with METATABLES in 2 and 3, register 4 an INT. */
    private static LuaValues twoTables() {
        LuaValues v = new LuaValues();
        for (int r = 0; r < 4; r++) {
            v.make(r, 4, 0);
        }
        v.meta(0, 2);
        v.meta(1, 3);
        v.make(4, 2, 0);
        return v;
    }

    private static void say(LuaValues v, int metatable, int event, int function) {
        v.make(10, 2, event);
        v.make(11, 5, function);
        v.set(metatable, 10, 11, true);
    }

    private static void tables() {
        LuaValues v = twoTables();
        check.due("6 no HANDLER for 3", false, () -> v.compare(0, 0, 1));
        say(v, 3, 3, 1);
        check.due("6 HANDLER of b for 3", true, () -> v.compare(0, 0, 1));
        check.due("6 RAW EQUAL asks none", false, () -> v.compare(3, 0, 1));
        check.due("6 a TABLE and an INT ask none", false, () -> v.compare(0, 1, 4));
        say(v, 2, 3, 0);
        check.due("6 HANDLER of a for 3 comes first", false, () -> v.compare(0, 0, 1));
        int calls = v.count(3);
        check.due("6 the same TABLE asks none", true, () -> v.compare(0, 0, 0));
        check.due("6 no CALL for that", calls, () -> v.count(3));
        v.make(10, 2, 3);
        v.set(2, 10, 4, true);
        check.due("6 a HANDLER that is an INT", UNSUPPORTED, () -> v.compare(0, 0, 1));
    }

    private static void orderByHandlers() {
        LuaValues v = twoTables();
        say(v, 3, 4, 2);
        check.due("6 HANDLER of b for 4", true, () -> v.compare(1, 0, 1));
        check.due("6 HANDLER of b for 4, an INT before", true, () -> v.compare(1, 4, 1));
        check.due("6 HANDLER of a for 4, 0 is TRUE", true, () -> v.compare(1, 1, 4));
        check.due("6 HANDLER for 4 gives nil", false, () -> v.compare(1, 1, 5));
        check.due("6 HANDLER for 4 is none for 5", UNSUPPORTED, () -> v.compare(2, 0, 1));
        say(v, 2, 5, 5);
        check.due("6 HANDLER of a for 5", true, () -> v.compare(2, 0, 1));
        v.make(6, 1, 0);
        check.due("6 HANDLER of b for 5, false before", false, () -> v.compare(2, 6, 0));
        check.due("6 the same TABLE asks for 5 too", true, () -> v.compare(2, 0, 0));
        check.due("6 none for 4", UNSUPPORTED, () -> v.compare(1, 0, 0));
        say(v, 2, 4, 0);
        check.due("6 HANDLER of a for 4 comes first", false, () -> v.compare(1, 0, 1));
    }

    private static void wrongInputs() {
        LuaValues v = new LuaValues();
        Class<IndexOutOfBoundsException> index = IndexOutOfBoundsException.class;
        Class<IllegalArgumentException> argument = IllegalArgumentException.class;
        check.refused("6 what 4", v, argument, () -> v.compare(4, 0, 0));
        check.refused("6 what -1", v, argument, () -> v.compare(-1, 0, 0));
        check.refused("6 a before what", v, index, () -> v.compare(4, 12, 0));
        check.refused("6 b before what", v, index, () -> v.compare(4, 0, -1));
        check.refused("6 b", v, index, () -> v.compare(0, 0, 12));
    }
}
