/** Values as the tests write them: put into registers, and told from them. */
final class Held {
    static final String NIL = "nil";
    static final String TABLE = "TABLE";
    static final int[] NO_REGISTERS = {-1, 12, Integer.MIN_VALUE, Integer.MAX_VALUE};

    /** A FUNCTION; nil and a TABLE are the texts above, the others a Boolean, a Long, a Double. */
    record Fn(long number) {
    }

    static void put(LuaValues v, int r, Object value) {
        if (value instanceof Long) {
            v.make(r, 2, (Long) value);
        } else if (value instanceof Double) {
            v.real(r, (Double) value, 0);
        } else if (value instanceof Boolean) {
            v.make(r, 1, (Boolean) value ? 1 : 0);
        } else if (value instanceof Fn) {
            v.make(r, 5, ((Fn) value).number);
        } else {
            v.make(r, value.equals(TABLE) ? 4 : 0, 0);
        }
    }

    /** A new object with these in its registers, from 0 on. */
    static LuaValues with(Object... values) {
        LuaValues v = new LuaValues();
        for (int r = 0; r < values.length; r++) {
            put(v, r, values[r]);
        }
        return v;
    }

    static Object in(LuaValues v, int r) {
        switch (v.kind(r)) {
            case 0:
                return NIL;
            case 1:
                return v.whole(r) == 1;
            case 2:
                return v.whole(r);
            case 3:
                return v.number(r);
            case 4:
                return TABLE;
            default:
                return new Fn(v.whole(r));
        }
    }

    static int kindOf(Object value) {
        if (value instanceof Boolean) {
            return 1;
        }
        if (value instanceof Long) {
            return 2;
        }
        if (value instanceof Double) {
            return 3;
        }
        return value instanceof Fn ? 5 : value.equals(TABLE) ? 4 : 0;
    }

    /** An ENTRY of the TABLE in register t; registers 10 and 11 are nil after it. */
    static void entry(LuaValues v, int t, Object key, Object value) {
        put(v, 11, value);
        entryOf(v, t, key, 11);
        v.make(11, 0, 0);
    }

    /** An ENTRY whose VALUE register r holds; register 10 is nil after it. */
    static void entryOf(LuaValues v, int t, Object key, int r) {
        put(v, 10, key);
        v.set(t, 10, r, true);
        v.make(10, 0, 0);
    }

    /** The ENTRIES INT from .. to, each with its KEY as its VALUE. */
    static void entries(LuaValues v, int t, long from, long to) {
        v.make(10, 2, from);
        v.make(11, 2, 1);
        for (long n = from; n <= to; n++) {
            v.set(t, 10, 10, true);
            v.arithmetic(0, 10, 10, 11);
        }
        v.make(10, 0, 0);
        v.make(11, 0, 0);
    }

    /**
     * Register 0 a TABLE whose HANDLER for the event is a TABLE, and so on: as many TABLES as told. The HANDLER
     * of the last one, which register 1 holds too, is what is told.
     */
    static LuaValues chain(int event, int tables, Object last) {
        LuaValues v = new LuaValues();
        v.make(0, 4, 0);
        v.move(1, 0);
        for (int i = 1; i <= tables; i++) {
            v.make(2, 4, 0);
            v.meta(1, 2);
            put(v, 3, i < tables ? TABLE : last);
            entryOf(v, 2, (long) event, 3);
            if (i < tables) {
                v.move(1, 3);
            }
        }
        v.make(2, 0, 0);
        v.make(3, 0, 0);
        return v;
    }

    /** The KEYS of the TABLE in register t as next tells them; registers 10 and 11 are used. */
    static String walk(LuaValues v, int t) {
        StringBuilder text = new StringBuilder();
        v.make(10, 0, 0);
        for (int i = 0; i < 31 && v.next(10, t, 10) != 0; i++) {
            v.get(11, t, 10, true);
            text.append(in(v, 10)).append('=').append(in(v, 11)).append(' ');
        }
        return text.toString();
    }

    /** All that the face tells of an object; it uses registers 10 and 11 and is told once only. */
    static String portrait(LuaValues v) {
        StringBuilder text = new StringBuilder();
        boolean[] tables = new boolean[12];
        for (int r = 0; r < 12; r++) {
            Object held = in(v, r);
            tables[r] = held.equals(TABLE) && r < 10;
            text.append(held).append(held.equals(TABLE) ? v.whole(r) + " " : " ");
        }
        for (int what = 0; what < 4; what++) {
            text.append(v.count(what)).append(' ');
        }
        for (int t = 0; t < 10; t++) {
            if (tables[t]) {
                text.append("| ").append(t).append(": ").append(sameAs(v, tables, t)).append(walk(v, t));
                text.append(answers(v, t));
            }
        }
        return text.toString();
    }

    private static String sameAs(LuaValues v, boolean[] tables, int t) {
        StringBuilder text = new StringBuilder();
        for (int other = 0; other < t; other++) {
            if (tables[other] && v.compare(3, t, other)) {
                text.append("is ").append(other).append(' ');
            }
        }
        return text.toString();
    }

    /** What the METATABLE of the TABLE in register t says can be told by calls alone. */
    private static String answers(LuaValues v, int t) {
        v.make(10, 0, 0);
        v.make(11, 0, 0);
        return Check.answer(() -> v.get(11, t, 10, false)) + " " + Check.answer(() -> v.length(11, t)) + " "
                + Check.answer(() -> v.call(11, t, t, t)) + " " + Check.answer(() -> v.arithmetic(0, 11, t, t)) + " "
                + Check.answer(() -> v.compare(1, t, t)) + " ";
    }
}
