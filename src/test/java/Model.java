import java.math.BigDecimal;
import java.util.LinkedHashMap;
import java.util.NoSuchElementException;

/**
 * The document told a second time, by other means: VALUES are null, Boolean, Long, Double, Map and Fn, CALL,
 * GET and SET call themselves, and numbers are compared as BigDecimals.
 */
final class Model {
    record Fn(int number) {
    }

    static final class Map {
        final LinkedHashMap<Object, Object> entries = new LinkedHashMap<>();
        Map metatable = null;
    }

    final Object[] registers = new Object[12];
    int tables = 0;
    int calls = 0;

    static int kindOf(Object v) {
        if (v == null) {
            return 0;
        }
        return v instanceof Boolean ? 1 : v instanceof Long ? 2 : v instanceof Double ? 3 : v instanceof Map ? 4 : 5;
    }

    private static void index(int... places) {
        for (int place : places) {
            if (place < 0 || place > 11) {
                throw new IndexOutOfBoundsException();
            }
        }
    }

    private static boolean isNumber(Object v) {
        return v instanceof Long || v instanceof Double;
    }

    private static BigDecimal exact(Object v) {
        return v instanceof Long ? BigDecimal.valueOf((Long) v) : new BigDecimal((Double) v);
    }

    /** The Long of an INT or a WHOLE FLOAT, else null. */
    private static Long wholeOf(Object v) {
        if (v instanceof Long) {
            return (Long) v;
        }
        if (!(v instanceof Double)) {
            return null;
        }
        try {
            return exact(v).longValueExact();
        } catch (ArithmeticException e) {
            return null;
        }
    }

    private static Object key(Object v) {
        Long whole = wholeOf(v);
        return whole == null ? v : whole;
    }

    private static boolean truth(Object v) {
        return v != null && !v.equals(false);
    }

    private static boolean rawEqual(Object a, Object b) {
        Object left = key(a);
        Object right = key(b);
        return left == null ? right == null : left.equals(right);
    }

    /** By 0 a quotient would be infinite or, of 0, no number. */
    private static Double floatOf(double x) {
        if (Double.isNaN(x) || Double.isInfinite(x)) {
            throw new ArithmeticException();
        }
        return x == 0 ? 0.0 : x;
    }

    private int put(int r, Object v) {
        registers[r] = v;
        return kindOf(v);
    }

    private static Map table(Object v) {
        if (v instanceof Map) {
            return (Map) v;
        }
        throw new UnsupportedOperationException();
    }

    private static void rawSet(Map t, Object k, Object v) {
        if (k == null) {
            throw new IllegalArgumentException();
        }
        if (v == null) {
            t.entries.remove(key(k));
        } else if (t.entries.size() == 30 && !t.entries.containsKey(key(k))) {
            throw new IllegalStateException();
        } else {
            t.entries.put(key(k), v);
        }
    }

    private static Object rawGet(Map t, Object k) {
        return t.entries.get(key(k));
    }

    private static long lengthOf(Map t) {
        long n = 0;
        while (t.entries.containsKey(n + 1)) {
            n++;
        }
        return n;
    }

    private static Object handler(Object v, long event) {
        return v instanceof Map && ((Map) v).metatable != null ? ((Map) v).metatable.entries.get(event) : null;
    }

    private static Object handler(Object a, Object b, long event) {
        Object first = handler(a, event);
        return first != null ? first : handler(b, event);
    }

    private static void depth(int depth) {
        if (depth > 8) {
            throw new IllegalStateException();
        }
    }

    private Object callOf(Object f, Object a, Object b, int depth) {
        depth(depth);
        if (!(f instanceof Fn)) {
            Object h = handler(f, 7);
            if (h == null) {
                throw new UnsupportedOperationException();
            }
            return callOf(h, f, a, depth + 1);
        }
        calls++;
        Map t = a instanceof Map ? (Map) a : null;
        Object[] results = {null, a, b, t == null ? null : rawGet(t, b), t == null ? null : lengthOf(t), truth(a)};
        return results[((Fn) f).number];
    }

    private Object getOf(Object t, Object k, int depth) {
        depth(depth);
        Object found = rawGet(table(t), k);
        Object h = handler(t, 1);
        if (found != null || h == null) {
            return found;
        }
        return h instanceof Fn ? callOf(h, t, k, depth + 1) : getOf(h, k, depth + 1);
    }

    private void setOf(Object t, Object k, Object v, int depth) {
        depth(depth);
        Object h = handler(t, 2);
        if (rawGet(table(t), k) != null || h == null) {
            rawSet(table(t), k, v);
        } else if (h instanceof Fn) {
            callOf(h, t, k, depth + 1);
        } else {
            setOf(h, k, v, depth + 1);
        }
    }

    int make(int r, int kind, long n) {
        index(r);
        switch (kind) {
            case 0 -> registers[r] = null;
            case 1 -> registers[r] = n != 0;
            case 2 -> registers[r] = n;
            case 4 -> {
                if (tables == 20) {
                    throw new IllegalStateException();
                }
                tables++;
                registers[r] = new Map();
            }
            case 5 -> {
                if (n < 0 || n > 5) {
                    throw new IllegalArgumentException();
                }
                registers[r] = new Fn((int) n);
            }
            default -> throw new IllegalArgumentException();
        }
        return tables;
    }

    int real(int r, double x, int e) {
        index(r);
        if (Math.abs((long) e) > 300) {
            throw new IllegalArgumentException();
        }
        double result = x;
        for (int i = 0; i < Math.abs(e); i++) {
            result = e > 0 ? result * 2 : result * 0.5;
        }
        return put(r, floatOf(result));
    }

    int move(int r, int a) {
        index(r, a);
        return put(r, registers[a]);
    }

    int arithmetic(int o, int r, int first, int second) {
        index(r, first, second);
        if (o < 0 || o > 9) {
            throw new IllegalArgumentException();
        }
        Object a = registers[first];
        Object b = o == 9 ? a : registers[second];
        boolean ints = a instanceof Long && b instanceof Long;
        boolean wholes = wholeOf(a) != null && wholeOf(b) != null;
        boolean fit = o == 5 ? ints : o >= 6 && o <= 8 ? wholes : isNumber(a) && isNumber(b);
        if (!fit) {
            Object h = handler(a, b, 10 + o);
            if (h == null) {
                throw new UnsupportedOperationException();
            }
            return put(r, callOf(h, a, b, 2));
        }
        if (o >= 6 && o <= 8) {
            long x = wholeOf(a);
            long y = wholeOf(b);
            return put(r, o == 6 ? x & y : o == 7 ? x | y : x ^ y);
        }
        return put(r, ints && o != 3 ? (Object) ofInts(o, (Long) a, (Long) b)
                : floatOf(ofFloats(o, ((Number) a).doubleValue(), ((Number) b).doubleValue())));
    }

    private static long ofInts(int o, long a, long b) {
        java.math.BigInteger x = java.math.BigInteger.valueOf(a);
        java.math.BigInteger y = java.math.BigInteger.valueOf(b);
        switch (o) {
            case 0:
                return x.add(y).longValue();
            case 1:
                return x.subtract(y).longValue();
            case 2:
                return x.multiply(y).longValue();
            case 9:
                return x.negate().longValue();
            default:
                java.math.BigInteger[] parts = x.divideAndRemainder(y);
                boolean down = parts[1].signum() != 0 && parts[1].signum() != y.signum();
                return (o == 4 ? down ? parts[0].subtract(java.math.BigInteger.ONE) : parts[0]
                        : down ? parts[1].add(y) : parts[1]).longValue();
        }
    }

    private static double ofFloats(int o, double a, double b) {
        switch (o) {
            case 0:
                return a + b;
            case 1:
                return a - b;
            case 2:
                return a * b;
            case 3:
                return a / b;
            case 4:
                return Math.floor(a / b);
            default:
                return -a;
        }
    }

    boolean compare(int what, int first, int second) {
        index(first, second);
        if (what < 0 || what > 3) {
            throw new IllegalArgumentException();
        }
        Object a = registers[first];
        Object b = registers[second];
        if (what == 3 || what == 0 && (rawEqual(a, b) || !(a instanceof Map) || !(b instanceof Map))) {
            return rawEqual(a, b);
        }
        if (isNumber(a) && isNumber(b)) {
            int order = exact(a).compareTo(exact(b));
            return what == 1 ? order < 0 : order <= 0;
        }
        Object h = handler(a, b, 3 + what);
        if (h == null && what == 0) {
            return false;
        }
        if (h == null) {
            throw new UnsupportedOperationException();
        }
        return truth(callOf(h, a, b, 2));
    }

    int get(int r, int t, int k, boolean raw) {
        index(r, t, k);
        return put(r, raw ? rawGet(table(registers[t]), registers[k]) : getOf(registers[t], registers[k], 1));
    }

    int set(int t, int k, int v, boolean raw) {
        index(t, k, v);
        if (raw) {
            rawSet(table(registers[t]), registers[k], registers[v]);
        } else {
            setOf(registers[t], registers[k], registers[v], 1);
        }
        return table(registers[t]).entries.size();
    }

    int meta(int t, int m) {
        index(t, m);
        Map of = table(registers[t]);
        of.metatable = registers[m] == null ? null : table(registers[m]);
        return 0;
    }

    int length(int r, int a) {
        index(r, a);
        Map t = table(registers[a]);
        Object h = handler(t, 6);
        return put(r, h == null ? lengthOf(t) : callOf(h, t, t, 2));
    }

    int call(int r, int f, int a, int b) {
        index(r, f, a, b);
        return put(r, callOf(registers[f], registers[a], registers[b], 1));
    }

    int next(int r, int t, int k) {
        index(r, t, k);
        Map of = table(registers[t]);
        java.util.List<Object> order = new java.util.ArrayList<>();
        order.add(null);
        for (long n = 1; n <= lengthOf(of); n++) {
            order.add(n);
        }
        for (Object key : of.entries.keySet()) {
            if (!order.contains(key)) {
                order.add(key);
            }
        }
        int at = order.indexOf(key(registers[k]));
        if (at < 0) {
            throw new NoSuchElementException();
        }
        return put(r, at + 1 < order.size() ? order.get(at + 1) : null);
    }

    int kind(int r) {
        index(r);
        return kindOf(registers[r]);
    }

    long whole(int r) {
        index(r);
        Object v = registers[r];
        if (v instanceof Double && wholeOf(v) == null) {
            throw new ArithmeticException();
        }
        if (v instanceof Map) {
            return ((Map) v).entries.size();
        }
        return v instanceof Boolean ? (Boolean) v ? 1 : 0 : v instanceof Fn ? ((Fn) v).number : v == null ? 0 : wholeOf(v);
    }

    double number(int r) {
        index(r);
        if (!isNumber(registers[r])) {
            throw new UnsupportedOperationException();
        }
        return ((Number) registers[r]).doubleValue();
    }

    int count(int what) {
        int held = 0;
        int numbers = 0;
        for (Object v : registers) {
            held += v == null ? 0 : 1;
            numbers += isNumber(v) ? 1 : 0;
        }
        return what == 0 ? tables : what == 1 ? held : what == 2 ? numbers : what == 3 ? calls : -1;
    }
}
