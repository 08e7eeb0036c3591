import java.util.NoSuchElementException;

/** The values of a small Lua in twelve registers: numbers, tables, and what other tables say of them. */
public final class LuaValues {
    private static final int NIL = 0;
    private static final int BOOLEAN = 1;
    private static final int INT = 2;
    private static final int FLOAT = 3;
    private static final int TABLE = 4;
    private static final int FUNCTION = 5;

    private static final int ADD = 0;
    private static final int SUBTRACT = 1;
    private static final int MULTIPLY = 2;
    private static final int DIVIDE = 3;
    private static final int FLOOR_DIVIDE = 4;
    private static final int MODULO = 5;
    private static final int AND = 6;
    private static final int OR = 7;
    private static final int XOR = 8;
    private static final int NEGATIVE = 9;

    private static final int EQUAL = 0;
    private static final int LESS = 1;
    private static final int LESS_OR_EQUAL = 2;
    private static final int RAW_EQUAL = 3;

    private static final int EVENT_GET = 1;
    private static final int EVENT_SET = 2;
    private static final int EVENT_EQUAL = 3;
    private static final int EVENT_LESS = 4;
    private static final int EVENT_LESS_OR_EQUAL = 5;
    private static final int EVENT_LENGTH = 6;
    private static final int EVENT_CALL = 7;
    private static final int EVENT_OPERATION = 10;

    private static final int REGISTERS = 12;
    private static final int MOST_TABLES = 20;
    private static final int MOST_ENTRIES = 30;
    private static final int LAST_FUNCTION = 5;
    private static final int MOST_DOUBLINGS = 300;
    private static final int FIRST_DEPTH = 1;
    private static final int LAST_DEPTH = 8;

    private final Value nil;
    private final Value[] registers;
    private int tablesMade;
    private int functionCalls;

    public LuaValues() {
        nil = new Value(NIL, false, 0, 0.0, null);
        registers = new Value[REGISTERS];
        for (int i = 0; i < REGISTERS; i++) {
            registers[i] = nil;
        }
        tablesMade = 0;
        functionCalls = 0;
    }

    public int make(int r, int kind, long n)
            throws IndexOutOfBoundsException, IllegalArgumentException, IllegalStateException {
        checkRegister(r);
        registers[r] = newValue(kind, n);
        return tablesMade;
    }

    public int real(int r, double x, int e)
            throws IndexOutOfBoundsException, IllegalArgumentException, ArithmeticException {
        checkRegister(r);
        if (e < -MOST_DOUBLINGS || e > MOST_DOUBLINGS) {
            throw new IllegalArgumentException();
        }
        return keep(r, Value.ofFloat(Numbers.scaled(Numbers.finite(x), e)));
    }

    public int move(int r, int a) throws IndexOutOfBoundsException {
        checkRegister(r);
        checkRegister(a);
        return keep(r, registers[a]);
    }

    public int arithmetic(int operation, int r, int a, int b)
            throws IndexOutOfBoundsException, IllegalArgumentException, ArithmeticException,
            UnsupportedOperationException, IllegalStateException {
        checkRegister(r);
        checkRegister(a);
        checkRegister(b);
        if (operation < ADD || operation > NEGATIVE) {
            throw new IllegalArgumentException();
        }
        Value left = registers[a];
        Value right = operation == NEGATIVE ? left : registers[b];
        if (fits(operation, left, right)) {
            return keep(r, worked(operation, left, right));
        }
        return keep(r, callOfEither(EVENT_OPERATION + operation, left, right));
    }

    public boolean compare(int what, int a, int b)
            throws IndexOutOfBoundsException, IllegalArgumentException, UnsupportedOperationException,
            IllegalStateException {
        checkRegister(a);
        checkRegister(b);
        Value left = registers[a];
        Value right = registers[b];
        switch (what) {
            case EQUAL:
                return isEqual(left, right);
            case LESS:
                return areNumbers(left, right)
                        ? left.orderTo(right) < 0
                        : callOfEither(EVENT_LESS, left, right).isTrue();
            case LESS_OR_EQUAL:
                return areNumbers(left, right)
                        ? left.orderTo(right) <= 0
                        : callOfEither(EVENT_LESS_OR_EQUAL, left, right).isTrue();
            case RAW_EQUAL:
                return left.isRawEqual(right);
            default:
                throw new IllegalArgumentException();
        }
    }

    public int get(int r, int t, int k, boolean raw)
            throws IndexOutOfBoundsException, UnsupportedOperationException, IllegalStateException {
        checkRegister(r);
        checkRegister(t);
        checkRegister(k);
        if (raw) {
            return keep(r, rawGet(tableIn(t), registers[k]));
        }
        return keep(r, deepGet(registers[t], registers[k]));
    }

    public int set(int t, int k, int v, boolean raw)
            throws IndexOutOfBoundsException, UnsupportedOperationException, IllegalArgumentException,
            IllegalStateException {
        checkRegister(t);
        checkRegister(k);
        checkRegister(v);
        Table table = tableIn(t);
        if (raw) {
            rawSet(table, registers[k], registers[v]);
        } else {
            deepSet(registers[t], registers[k], registers[v]);
        }
        return table.size;
    }

    public int meta(int t, int m) throws IndexOutOfBoundsException, UnsupportedOperationException {
        checkRegister(t);
        checkRegister(m);
        Table table = tableIn(t);
        table.metatable = registers[m].kind == NIL ? null : tableIn(m);
        return 0;
    }

    public int length(int r, int a)
            throws IndexOutOfBoundsException, UnsupportedOperationException, IllegalStateException {
        checkRegister(r);
        checkRegister(a);
        Table table = tableIn(a);
        Value own = registers[a];
        Value handler = handlerOf(own, EVENT_LENGTH);
        if (handler.kind == NIL) {
            return keep(r, Value.ofInt(table.border()));
        }
        return keep(r, deepCall(FIRST_DEPTH + 1, handler, own, own));
    }

    public int call(int r, int f, int a, int b)
            throws IndexOutOfBoundsException, UnsupportedOperationException, IllegalStateException {
        checkRegister(r);
        checkRegister(f);
        checkRegister(a);
        checkRegister(b);
        return keep(r, deepCall(FIRST_DEPTH, registers[f], registers[a], registers[b]));
    }

    public int next(int r, int t, int k)
            throws IndexOutOfBoundsException, UnsupportedOperationException, NoSuchElementException {
        checkRegister(r);
        checkRegister(t);
        checkRegister(k);
        return keep(r, keyAfter(tableIn(t), registers[k]));
    }

    public int kind(int r) throws IndexOutOfBoundsException {
        checkRegister(r);
        return registers[r].kind;
    }

    public long whole(int r) throws IndexOutOfBoundsException, ArithmeticException {
        checkRegister(r);
        Value value = registers[r];
        if (value.table != null) {
            return value.table.size;
        }
        if (value.kind == FLOAT && !value.isWhole) {
            throw new ArithmeticException();
        }
        return value.n;
    }

    public double number(int r) throws IndexOutOfBoundsException, UnsupportedOperationException {
        checkRegister(r);
        Value value = registers[r];
        if (!value.isNumber()) {
            throw new UnsupportedOperationException();
        }
        return value.nearestFloat();
    }

    public int count(int what) {
        switch (what) {
            case 0:
                return tablesMade;
            case 1:
                return registersInUse();
            case 2:
                return registersWithNumbers();
            case 3:
                return functionCalls;
            default:
                return -1;
        }
    }

    private static void checkRegister(int r) {
        if (r < 0 || r >= REGISTERS) {
            throw new IndexOutOfBoundsException();
        }
    }

    private int keep(int r, Value value) {
        registers[r] = value;
        return value.kind;
    }

    private Table tableIn(int r) {
        Table table = registers[r].table;
        if (table == null) {
            throw new UnsupportedOperationException();
        }
        return table;
    }

    private Value newValue(int kind, long n) {
        switch (kind) {
            case NIL:
                return nil;
            case BOOLEAN:
                return Value.ofBoolean(n != 0);
            case INT:
                return Value.ofInt(n);
            case TABLE:
                return newTable();
            case FUNCTION:
                return newFunction(n);
            default:
                throw new IllegalArgumentException();
        }
    }

    private Value newTable() {
        if (tablesMade >= MOST_TABLES) {
            throw new IllegalStateException();
        }
        tablesMade++;
        return new Value(TABLE, false, 0, 0.0, new Table());
    }

    private static Value newFunction(long n) {
        if (n < 0 || n > LAST_FUNCTION) {
            throw new IllegalArgumentException();
        }
        return new Value(FUNCTION, false, n, 0.0, null);
    }

    private int registersInUse() {
        int found = 0;
        for (int i = 0; i < REGISTERS; i++) {
            if (registers[i].kind != NIL) {
                found++;
            }
        }
        return found;
    }

    private int registersWithNumbers() {
        int found = 0;
        for (int i = 0; i < REGISTERS; i++) {
            if (registers[i].isNumber()) {
                found++;
            }
        }
        return found;
    }

    private Value rawGet(Table table, Value key) {
        int at = table.indexOf(key);
        return at < 0 ? nil : table.entries[at].held;
    }

    private static void rawSet(Table table, Value key, Value value) {
        if (key.kind == NIL) {
            throw new IllegalArgumentException();
        }
        int at = table.indexOf(key);
        if (value.kind == NIL) {
            table.removeAt(at);
        } else if (at >= 0) {
            table.entries[at].held = value;
        } else if (table.size >= MOST_ENTRIES) {
            throw new IllegalStateException();
        } else {
            table.append(key.asKey(), value);
        }
    }

    private Value handlerOf(Value value, int event) {
        if (value.table == null || value.table.metatable == null) {
            return nil;
        }
        Table metatable = value.table.metatable;
        int at = metatable.indexOfInt(event);
        return at < 0 ? nil : metatable.entries[at].held;
    }

    private Value handlerOfEither(int event, Value a, Value b) {
        Value handler = handlerOf(a, event);
        return handler.kind == NIL ? handlerOf(b, event) : handler;
    }

    private Value callOfEither(int event, Value a, Value b) {
        Value handler = handlerOfEither(event, a, b);
        if (handler.kind == NIL) {
            throw new UnsupportedOperationException();
        }
        return deepCall(FIRST_DEPTH + 1, handler, a, b);
    }

    private Value deepCall(int firstDepth, Value f, Value a, Value b) {
        Value callee = f;
        Value first = a;
        Value second = b;
        for (int depth = firstDepth; depth <= LAST_DEPTH; depth++) {
            if (callee.kind == FUNCTION) {
                return resultOf(callee.n, first, second);
            }
            Value handler = handlerOf(callee, EVENT_CALL);
            if (handler.kind == NIL) {
                throw new UnsupportedOperationException();
            }
            second = first;
            first = callee;
            callee = handler;
        }
        throw new IllegalStateException();
    }

    // No FUNCTION can fail, and nothing fails after one: so a call that throws has counted none here.
    private Value resultOf(long function, Value a, Value b) {
        functionCalls++;
        switch ((int) function) {
            case 1:
                return a;
            case 2:
                return b;
            case 3:
                return a.table == null ? nil : rawGet(a.table, b);
            case 4:
                return a.table == null ? nil : Value.ofInt(a.table.border());
            case 5:
                return Value.ofBoolean(a.isTrue());
            default:
                return nil;
        }
    }

    private Value deepGet(Value t, Value key) {
        Value asked = t;
        for (int depth = FIRST_DEPTH; depth <= LAST_DEPTH; depth++) {
            if (asked.table == null) {
                throw new UnsupportedOperationException();
            }
            Value found = rawGet(asked.table, key);
            Value handler = handlerOf(asked, EVENT_GET);
            if (found.kind != NIL || handler.kind == NIL) {
                return found;
            }
            if (handler.kind == FUNCTION) {
                return deepCall(depth + 1, handler, asked, key);
            }
            asked = handler;
        }
        throw new IllegalStateException();
    }

    private void deepSet(Value t, Value key, Value value) {
        Value asked = t;
        for (int depth = FIRST_DEPTH; depth <= LAST_DEPTH; depth++) {
            if (asked.table == null) {
                throw new UnsupportedOperationException();
            }
            Value handler = handlerOf(asked, EVENT_SET);
            if (handler.kind == NIL || rawGet(asked.table, key).kind != NIL) {
                rawSet(asked.table, key, value);
                return;
            }
            if (handler.kind == FUNCTION) {
                deepCall(depth + 1, handler, asked, key);
                return;
            }
            asked = handler;
        }
        throw new IllegalStateException();
    }

    private Value keyAfter(Table table, Value key) {
        int border = table.border();
        long last = 0;
        if (key.kind != NIL) {
            int at = table.indexOf(key);
            if (at < 0) {
                throw new NoSuchElementException();
            }
            Value own = table.entries[at].key;
            if (!own.isIntUpTo(border)) {
                return keyOutside(table, border, at + 1);
            }
            last = own.n;
        }
        return last < border ? Value.ofInt(last + 1) : keyOutside(table, border, 0);
    }

    // The ENTRIES stand in the order of their AGE, so the first one found is the earliest.
    private Value keyOutside(Table table, int border, int from) {
        for (int i = from; i < table.size; i++) {
            Value key = table.entries[i].key;
            if (!key.isIntUpTo(border)) {
                return key;
            }
        }
        return nil;
    }

    private boolean isEqual(Value a, Value b) {
        if (a.isRawEqual(b)) {
            return true;
        }
        if (a.kind != TABLE || b.kind != TABLE) {
            return false;
        }
        Value handler = handlerOfEither(EVENT_EQUAL, a, b);
        return handler.kind != NIL && deepCall(FIRST_DEPTH + 1, handler, a, b).isTrue();
    }

    private static boolean areNumbers(Value a, Value b) {
        return a.isNumber() && b.isNumber();
    }

    private static boolean fits(int operation, Value a, Value b) {
        switch (operation) {
            case MODULO:
                return a.kind == INT && b.kind == INT;
            case AND:
            case OR:
            case XOR:
                return a.isWhole && b.isWhole;
            default:
                return areNumbers(a, b);
        }
    }

    private static Value worked(int operation, Value a, Value b) {
        if (operation == AND || operation == OR || operation == XOR) {
            return Value.ofInt(Numbers.ofBits(operation, a.n, b.n));
        }
        if (operation != DIVIDE && a.kind == INT && b.kind == INT) {
            return Value.ofInt(Numbers.ofInts(operation, a.n, b.n));
        }
        return Value.ofFloat(Numbers.ofFloats(operation, a.nearestFloat(), b.nearestFloat()));
    }

    /** A VALUE, never changed. */
    private static final class Value {
        final int kind;
        /** For an INT and a WHOLE FLOAT. */
        final boolean isWhole;
        /** An INT, a WHOLE FLOAT as an INT, a boolean as 1 or 0, the number of a FUNCTION; else 0. */
        final long n;
        /** A FLOAT; else 0. */
        final double x;
        /** Not null for a TABLE, and for it alone. */
        final Table table;

        Value(int kind, boolean isWhole, long n, double x, Table table) {
            this.kind = kind;
            this.isWhole = isWhole;
            this.n = n;
            this.x = x;
            this.table = table;
        }

        static Value ofBoolean(boolean truth) {
            return new Value(BOOLEAN, false, truth ? 1 : 0, 0.0, null);
        }

        static Value ofInt(long n) {
            return new Value(INT, true, n, 0.0, null);
        }

        static Value ofFloat(double x) {
            boolean isWhole = Numbers.isWhole(x);
            // -0 equals 0, so this is what takes its sign away.
            double unsignedZero = x == 0 ? 0.0 : x;
            return new Value(FLOAT, isWhole, isWhole ? (long) x : 0, unsignedZero, null);
        }

        boolean isNumber() {
            return kind == INT || kind == FLOAT;
        }

        boolean isTrue() {
            return kind != NIL && (kind != BOOLEAN || n != 0);
        }

        boolean isIntUpTo(int border) {
            return kind == INT && n >= 1 && n <= border;
        }

        double nearestFloat() {
            return kind == INT ? (double) n : x;
        }

        Value asKey() {
            return kind == FLOAT && isWhole ? ofInt(n) : this;
        }

        boolean isRawEqual(Value other) {
            if (isWhole) {
                return other.isWhole && n == other.n;
            }
            return kind == other.kind && n == other.n && x == other.x && table == other.table;
        }

        /** Below 0, 0 or above 0 as this number is less than, equal to or greater than the other. */
        int orderTo(Value other) {
            if (kind == INT) {
                return other.kind == INT ? Long.compare(n, other.n) : Numbers.orderOf(n, other.x);
            }
            return other.kind == INT ? -Numbers.orderOf(other.n, x) : Numbers.orderOfFloats(x, other.x);
        }
    }

    /** A KEY and what it holds. */
    private static final class Entry {
        final Value key;
        Value held;

        Entry(Value key, Value held) {
            this.key = key;
            this.held = held;
        }
    }

    /** The ENTRIES of a TABLE in the order of their AGE, the earliest first. */
    private static final class Table {
        final Entry[] entries;
        int size;
        Table metatable;

        Table() {
            entries = new Entry[MOST_ENTRIES];
            size = 0;
            metatable = null;
        }

        /** Where the ENTRY with the KEY is, -1 without one. */
        int indexOf(Value key) {
            for (int i = 0; i < size; i++) {
                if (entries[i].key.isRawEqual(key)) {
                    return i;
                }
            }
            return -1;
        }

        int indexOfInt(long n) {
            for (int i = 0; i < size; i++) {
                Value key = entries[i].key;
                if (key.kind == INT && key.n == n) {
                    return i;
                }
            }
            return -1;
        }

        /** The LENGTH; it cannot be above the number of ENTRIES, which ends the loop. */
        int border() {
            int n = 0;
            while (n < size && indexOfInt(n + 1) >= 0) {
                n++;
            }
            return n;
        }

        void append(Value key, Value held) {
            if (size < MOST_ENTRIES) {
                entries[size] = new Entry(key, held);
                size++;
            }
        }

        void removeAt(int at) {
            if (at < 0 || at >= size) {
                return;
            }
            for (int i = at + 1; i < size; i++) {
                entries[i - 1] = entries[i];
            }
            size--;
            entries[size] = null;
        }
    }

    /** What is done with bare numbers; FLOATs that come in are finite. */
    private static final class Numbers {
        static double finite(double x) {
            if (x >= -1.7976931348623157E308 && x <= 1.7976931348623157E308) {
                return x;
            }
            throw new ArithmeticException();
        }

        static double scaled(double x, int e) {
            double factor = e < 0 ? 0.5 : 2.0;
            int times = e < 0 ? -e : e;
            double result = x;
            for (int i = 0; i < times; i++) {
                result = result * factor;
            }
            return finite(result);
        }

        // From 2^63 on a FLOAT would be cut down by the cast to long, so the range is looked at first.
        static boolean isWhole(double x) {
            return x >= -9223372036854775808.0 && x < 9223372036854775808.0 && (double) (long) x == x;
        }

        static int orderOfFloats(double a, double b) {
            if (a < b) {
                return -1;
            }
            return a > b ? 1 : 0;
        }

        // Taking n as a FLOAT would round it; what is cut off x is looked at only if its whole part is n.
        static int orderOf(long n, double x) {
            if (x >= 9223372036854775808.0) {
                return -1;
            }
            if (x < -9223372036854775808.0) {
                return 1;
            }
            long cut = (long) x;
            if (n == cut) {
                return orderOfFloats((double) cut, x);
            }
            return n < cut ? -1 : 1;
        }

        static long ofBits(int operation, long a, long b) {
            switch (operation) {
                case AND:
                    return a & b;
                case OR:
                    return a | b;
                default:
                    return a ^ b;
            }
        }

        static long ofInts(int operation, long a, long b) {
            switch (operation) {
                case ADD:
                    return a + b;
                case SUBTRACT:
                    return a - b;
                case MULTIPLY:
                    return a * b;
                case FLOOR_DIVIDE:
                    return floorOfInts(a, b);
                case MODULO:
                    return a - b * floorOfInts(a, b);
                default:
                    return -a;
            }
        }

        static long floorOfInts(long a, long b) {
            if (b == 0) {
                throw new ArithmeticException();
            }
            return Math.floorDiv(a, b);
        }

        static double ofFloats(int operation, double a, double b) {
            switch (operation) {
                case ADD:
                    return finite(a + b);
                case SUBTRACT:
                    return finite(a - b);
                case MULTIPLY:
                    return finite(a * b);
                case DIVIDE:
                    return quotient(a, b);
                case FLOOR_DIVIDE:
                    return floor(quotient(a, b));
                default:
                    return -a;
            }
        }

        static double quotient(double a, double b) {
            if (b == 0) {
                throw new ArithmeticException();
            }
            return finite(a / b);
        }

        // From 2^52 on every FLOAT is a whole number, and it may not fit a long.
        static double floor(double x) {
            if (x >= 4503599627370496.0 || x <= -4503599627370496.0) {
                return x;
            }
            double cut = (double) (long) x;
            return cut > x ? cut - 1.0 : cut;
        }
    }
}
