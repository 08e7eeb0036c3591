import java.util.NoSuchElementException;

/** Promises 7, 8, 10 and 12 where there is no METATABLE: get, set, length, next. */
public final class TablesTest {
    private static final Class<IndexOutOfBoundsException> INDEX = IndexOutOfBoundsException.class;
    private static final Class<IllegalArgumentException> ARGUMENT = IllegalArgumentException.class;
    private static final Class<IllegalStateException> STATE = IllegalStateException.class;
    private static final Class<UnsupportedOperationException> UNSUPPORTED = UnsupportedOperationException.class;
    private static final Class<NoSuchElementException> MISSING = NoSuchElementException.class;
    private static final Check check = new Check();

    public static void main(String[] args) {
        keysOfAllKinds();
        floatKeys();
        removing();
        thirtyEntries();
        lengths();
        order();
        ages();
        wrongInputs();
        wrongRegisters();
        check.end("TablesTest");
    }

    private static void putInt(LuaValues v, long key, long value) {
        v.make(10, 2, key);
        v.make(9, 2, value);
        v.set(0, 10, 9, true);
    }

    private static void removeInt(LuaValues v, long key) {
        v.make(10, 2, key);
        v.make(9, 0, 0);
        v.set(0, 10, 9, true);
    }

    private static void keysOfAllKinds() {
        LuaValues v = new LuaValues();
        v.make(0, 4, 0);
        v.make(1, 1, 0);
        v.make(2, 1, 1);
        v.make(3, 2, 0);
        v.make(4, 2, 1);
        v.real(5, 0.5, 0);
        v.make(6, 5, 0);
        v.make(7, 5, 1);
        v.make(8, 4, 0);
        int[] keys = {1, 2, 3, 4, 5, 6, 7, 8, 0};
        for (int i = 0; i < keys.length; i++) {
            int key = keys[i];
            int due = i + 1;
            v.make(9, 2, 100 + key);
            check.due("8 set of key " + key, due, () -> v.set(0, key, 9, false));
        }
        for (int key : keys) {
            check.due("7 get of key " + key, 2, () -> v.get(9, 0, key, false));
            check.due("7 value of key " + key, 100L + key, () -> v.whole(9));
            check.due("7 raw get of key " + key, 2, () -> v.get(9, 0, key, true));
            check.due("7 raw value of key " + key, 100L + key, () -> v.whole(9));
        }
        v.make(9, 4, 0);
        check.due("7 another TABLE is another KEY", 0, () -> v.get(9, 0, 9, false));
        check.due("7 get of nil", 0, () -> v.get(9, 0, 11, false));
        check.due("7 raw get of nil", 0, () -> v.get(9, 0, 11, true));
        check.due("7 into its own table", 2, () -> v.get(0, 0, 0, true));
        check.due("7 into its own table", 100L, () -> v.whole(0));
    }

    private static void floatKeys() {
        LuaValues v = new LuaValues();
        v.make(0, 4, 0);
        v.real(1, 8.0, 0);
        v.real(2, 2.5, 0);
        check.due("8 a WHOLE FLOAT", 1, () -> v.set(0, 1, 2, false));
        v.make(3, 2, 8);
        check.due("8 the INT is the same KEY", 3, () -> v.get(4, 0, 3, false));
        check.due("8 the VALUE stays a FLOAT", 2.5, () -> v.number(4));
        check.due("12 the KEY is the INT", 2, () -> v.next(4, 0, 11));
        check.due("12 the KEY is the INT", 8L, () -> v.whole(4));
        check.due("8 the INT changes it", 1, () -> v.set(0, 3, 1, true));
        check.due("8 a VALUE that is a WHOLE FLOAT", 3, () -> v.get(4, 0, 1, true));
        check.due("12 after a WHOLE FLOAT", 0, () -> v.next(4, 0, 1));
        v.real(1, 0x1p63, 0);
        v.make(3, 2, Long.MAX_VALUE);
        check.due("8 2^63", 2, () -> v.set(0, 1, 1, true));
        check.due("8 2^63 is no INT", 0, () -> v.get(4, 0, 3, true));
        v.real(1, -0x1p63, 0);
        v.make(3, 2, Long.MIN_VALUE);
        check.due("8 -2^63", 3, () -> v.set(0, 1, 1, true));
        check.due("8 -2^63 is an INT", 3, () -> v.get(4, 0, 3, true));
        v.real(1, -0.0, 0);
        v.make(3, 2, 0);
        check.due("8 -0", 4, () -> v.set(0, 1, 1, true));
        check.due("8 -0 is INT 0", 4, () -> v.set(0, 3, 3, true));
    }

    private static void removing() {
        LuaValues v = new LuaValues();
        v.make(0, 4, 0);
        putInt(v, 5, 50);
        v.make(1, 2, 5);
        v.make(2, 2, 6);
        check.due("8 nil for no ENTRY", 1, () -> v.set(0, 2, 11, true));
        check.due("8 nil for no ENTRY", 1, () -> v.set(0, 2, 11, false));
        check.due("8 nil for an ENTRY", 0, () -> v.set(0, 1, 11, false));
        check.due("8 it is gone", 0, () -> v.get(3, 0, 1, true));
        v.make(3, 1, 0);
        check.due("8 false is not nil", 1, () -> v.set(0, 1, 3, true));
        check.due("8 false is there", 1, () -> v.get(4, 0, 1, true));
        check.due("8 raw nil", 0, () -> v.set(0, 1, 11, true));
    }

    private static void thirtyEntries() {
        LuaValues v = new LuaValues();
        v.make(0, 4, 0);
        for (int i = 1; i <= 30; i++) {
            putInt(v, i, i);
        }
        v.make(1, 2, 31);
        v.make(2, 2, 30);
        check.due("8 thirty", 30L, () -> v.whole(0));
        check.due("10 thirty", 2, () -> v.length(3, 0));
        check.due("10 thirty", 30L, () -> v.whole(3));
        check.refused("8 a 31st raw", v, STATE, () -> v.set(0, 1, 1, true));
        check.refused("8 a 31st", v, STATE, () -> v.set(0, 1, 1, false));
        check.due("8 a 31st is not there", 0, () -> v.get(4, 0, 1, true));
        check.due("8 nil for a 31st", 30, () -> v.set(0, 1, 11, true));
        check.due("8 a change", 30, () -> v.set(0, 2, 1, true));
        check.refused("8 a nil KEY comes first", v, ARGUMENT, () -> v.set(0, 11, 1, true));
        check.due("8 one goes", 29, () -> v.set(0, 2, 11, true));
        check.due("8 then there is room", 30, () -> v.set(0, 1, 1, true));
        check.due("10 the gap ends it", 2, () -> v.length(3, 0));
        check.due("10 the gap ends it", 29L, () -> v.whole(3));
    }

    private static void length(LuaValues v, long want) {
        check.due("10 kind of the LENGTH", 2, () -> v.length(8, 0));
        check.due("10 LENGTH", want, () -> v.whole(8));
    }

    private static void lengths() {
        LuaValues v = new LuaValues();
        v.make(0, 4, 0);
        length(v, 0);
        putInt(v, 2, 0);
        putInt(v, 0, 0);
        putInt(v, -1, 0);
        length(v, 0);
        putInt(v, 1, 0);
        length(v, 2);
        putInt(v, 4, 0);
        length(v, 2);
        v.real(1, 3.0, 0);
        v.set(0, 1, 1, true);
        length(v, 4);
        removeInt(v, 1);
        length(v, 0);
        check.due("10 into its own register", 2, () -> v.length(0, 0));
        check.due("10 it is an INT now", 0L, () -> v.whole(0));
    }

    /** Walks the TABLE in register 0; all its KEYS are INTs. */
    private static void walk(LuaValues v, long... keys) {
        v.make(8, 0, 0);
        for (long key : keys) {
            check.due("12 kind before " + key, 2, () -> v.next(8, 0, 8));
            check.due("12 KEY", key, () -> v.whole(8));
        }
        check.due("12 the end", 0, () -> v.next(8, 0, 8));
        check.due("12 the end", 0, () -> v.kind(8));
    }

    private static void order() {
        LuaValues v = new LuaValues();
        v.make(0, 4, 0);
        walk(v);
        putInt(v, 5, 0);
        putInt(v, 3, 0);
        putInt(v, 0, 0);
        putInt(v, 2, 0);
        walk(v, 5, 3, 0, 2);
        putInt(v, 1, 0);
        walk(v, 1, 2, 3, 5, 0);
        putInt(v, 7, 0);
        putInt(v, 4, 0);
        walk(v, 1, 2, 3, 4, 5, 0, 7);
        removeInt(v, 2);
        walk(v, 1, 5, 3, 0, 7, 4);
    }

    private static void ages() {
        LuaValues v = new LuaValues();
        v.make(0, 4, 0);
        putInt(v, 10, 0);
        putInt(v, 20, 0);
        putInt(v, 30, 0);
        putInt(v, 10, 1);
        walk(v, 10, 20, 30);
        removeInt(v, 10);
        putInt(v, 10, 2);
        walk(v, 20, 30, 10);
        removeInt(v, 99);
        walk(v, 20, 30, 10);
    }

    private static void wrongInputs() {
        LuaValues v = new LuaValues();
        v.make(0, 4, 0);
        v.make(1, 2, 7);
        v.real(2, 0.5, 0);
        check.refused("8 nil KEY", v, ARGUMENT, () -> v.set(0, 11, 1, false));
        check.refused("8 nil KEY, raw", v, ARGUMENT, () -> v.set(0, 11, 1, true));
        check.refused("8 nil KEY and nil", v, ARGUMENT, () -> v.set(0, 11, 11, false));
        check.refused("8 no TABLE", v, UNSUPPORTED, () -> v.set(1, 1, 1, false));
        check.refused("8 no TABLE, raw, nil KEY", v, UNSUPPORTED, () -> v.set(11, 11, 1, true));
        check.refused("7 no TABLE", v, UNSUPPORTED, () -> v.get(3, 1, 1, false));
        check.refused("7 no TABLE, raw", v, UNSUPPORTED, () -> v.get(3, 11, 1, true));
        check.refused("10 no TABLE", v, UNSUPPORTED, () -> v.length(3, 1));
        check.refused("10 nil", v, UNSUPPORTED, () -> v.length(3, 11));
        check.refused("12 no TABLE", v, UNSUPPORTED, () -> v.next(3, 1, 11));
        check.refused("12 no such INT", v, MISSING, () -> v.next(3, 0, 1));
        check.refused("12 no such FLOAT", v, MISSING, () -> v.next(3, 0, 2));
    }

    private static void wrongRegisters() {
        LuaValues v = new LuaValues();
        v.make(0, 4, 0);
        v.make(1, 2, 7);
        check.refused("7 r", v, INDEX, () -> v.get(12, 1, 1, false));
        check.refused("7 t", v, INDEX, () -> v.get(3, 12, 1, true));
        check.refused("7 k before no TABLE", v, INDEX, () -> v.get(3, 1, 12, true));
        check.refused("8 t", v, INDEX, () -> v.set(-1, 1, 1, true));
        check.refused("8 k before no TABLE", v, INDEX, () -> v.set(1, 12, 1, false));
        check.refused("8 v before no TABLE", v, INDEX, () -> v.set(1, 1, 12, true));
        check.refused("10 r before no TABLE", v, INDEX, () -> v.length(12, 1));
        check.refused("10 a", v, INDEX, () -> v.length(3, -1));
        check.refused("12 r before no TABLE", v, INDEX, () -> v.next(12, 1, 1));
        check.refused("12 t", v, INDEX, () -> v.next(3, -1, 1));
        check.refused("12 k before no TABLE", v, INDEX, () -> v.next(3, 1, 12));
    }
}
