import java.util.ArrayList;
import java.util.List;

/**
 * Which REGISTERS a call asks and which one it changes: the first sentence of each promise, with every REGISTER in
 * every place, the same one in several places too; all the other REGISTERS stay.
 */
public final class PlacesTest {
    private static final int NONE = -1;
    private static final boolean[] RAW_OR_NOT = {true, false};
    private static final Check check = new Check();

    public static void main(String[] args) {
        for (int r = 0; r < 12; r++) {
            becomingOne(r);
            tellingOne(r);
            for (int a = 0; a < 12; a++) {
                ofTwo(r, a);
                for (int b = 0; b < 12; b++) {
                    ofThree(r, a, b);
                    for (int f = 0; f < 12; f++) {
                        call(r, f, a, b);
                    }
                }
            }
        }
        check.end("PlacesTest");
    }

    /** REGISTER i holds the INT 2^i: so no two hold the same, nor do two differences of them. */
    private static LuaValues filled() {
        LuaValues v = new LuaValues();
        for (int i = 0; i < 12; i++) {
            v.make(i, 2, in(i));
        }
        return v;
    }

    private static long in(int i) {
        return 1L << i;
    }

    private static List<Object> told(LuaValues v) {
        List<Object> all = new ArrayList<>();
        for (int i = 0; i < 12; i++) {
            all.add(Held.in(v, i));
        }
        return all;
    }

    /** The call answers that, then REGISTER r holds what it becomes, and all the others what they held. */
    private static void due(LuaValues v, String what, int r, Object becomes, Object answer, Check.Call call) {
        List<Object> then = told(v);
        if (r != NONE) {
            then.set(r, becomes);
        }
        check.due(what, answer, call);
        check.due(what + ": the registers then", then, () -> told(v));
    }

    private static void becomingOne(int r) {
        check.sentence("REGISTER r becomes nil (kind 0), false or true (kind 1, n 0 or not), an INT n (2), a new TABLE"
                + " without METATABLE (4), or FUNCTION n (5): how many TABLES were made.");
        LuaValues v = filled();
        due(v, "make nil in " + r, r, Held.NIL, 0, () -> v.make(r, 0, 7));
        due(v, "make true in " + r, r, true, 0, () -> v.make(r, 1, 7));
        due(v, "make false in " + r, r, false, 0, () -> v.make(r, 1, 0));
        due(v, "make a FUNCTION in " + r, r, new Held.Fn(3), 0, () -> v.make(r, 5, 3));
        due(v, "make a TABLE in " + r, r, Held.TABLE, 1, () -> v.make(r, 4, 7));
        due(v, "make an INT in " + r, r, -7L, 1, () -> v.make(r, 2, -7));
        check.sentence("REGISTER r becomes the FLOAT x * 2^e");
        due(v, "real in " + r, r, 6.0, 3, () -> v.real(r, 1.5, 2));
    }

    private static void tellingOne(int r) {
        LuaValues v = filled();
        check.sentence("The KIND of REGISTER r.");
        due(v, "kind of " + r, NONE, 0, 2, () -> v.kind(r));
        check.sentence("An INT; 1 or 0 for a boolean");
        due(v, "whole of " + r, NONE, 0, in(r), () -> v.whole(r));
        check.sentence("A FLOAT; an INT as the nearest FLOAT.");
        due(v, "number of " + r, NONE, 0, (double) in(r), () -> v.number(r));
        check.sentence("1: REGISTERS that are not nil; 2: REGISTERS with numbers");
        due(v, "REGISTERS with numbers", NONE, 0, 12, () -> v.count(2));
        v.make(r, 1, 1);
        due(v, "REGISTERS with numbers but for " + r, NONE, 0, 11, () -> v.count(2));
        v.make(r, 0, 0);
        due(v, "REGISTERS that are not nil but for " + r, NONE, 0, 11, () -> v.count(1));
    }

    private static void ofTwo(int r, int a) {
        String places = " " + r + " " + a;
        check.sentence("REGISTER r becomes what REGISTER a is: the kind.");
        LuaValues v = filled();
        due(v, "move" + places, r, in(a), 2, () -> v.move(r, a));
        check.sentence("REGISTER a COMPARED with REGISTER b: what 0 EQUAL, 1 LESS, 2 LESS OR EQUAL, 3 RAW EQUAL.");
        LuaValues w = filled();
        boolean[] order = {r == a, r < a, r <= a, r == a};
        for (int i = 0; i < 4; i++) {
            int what = i;
            due(w, "compare " + what + places, NONE, 0, order[what], () -> w.compare(what, r, a));
        }
        check.sentence("REGISTER r becomes the LENGTH of the TABLE in REGISTER a as an INT");
        LuaValues t = filled();
        int one = other(r, a);
        t.make(one, 2, 1);
        t.make(a, 4, 0);
        t.set(a, one, one, true);
        due(t, "length" + places, r, 1L, 2, () -> t.length(r, a));
        meta(r, a);
    }

    /** The METATABLE says of the LENGTH that it is true. */
    private static void meta(int t, int m) {
        check.sentence("REGISTER m becomes the METATABLE of the TABLE in REGISTER t (none, if m is nil): 0.");
        LuaValues v = filled();
        v.make(t, 4, 0);
        if (m != t) {
            v.make(m, 4, 0);
        }
        int six = other(t, m);
        int five = other(t, m, six);
        v.make(six, 2, 6);
        v.make(five, 5, 5);
        v.set(m, six, five, true);
        due(v, "length of " + t + " without METATABLE", six, 0L, 2, () -> v.length(six, t));
        due(v, "meta " + t + " " + m, NONE, 0, 0, () -> v.meta(t, m));
        due(v, "length of " + t + " then", six, true, 1, () -> v.length(six, t));
    }

    private static void ofThree(int r, int a, int b) {
        String places = " " + r + " " + a + " " + b;
        check.sentence("REGISTER r becomes the result of operation 0 .. 9 of REGISTERS a and b: its kind.");
        LuaValues v = filled();
        due(v, "-" + places, r, in(a) - in(b), 2, () -> v.arithmetic(1, r, a, b));
        LuaValues w = filled();
        due(w, "/" + places, r, (double) in(a) / in(b), 3, () -> w.arithmetic(3, r, a, b));
        LuaValues u = filled();
        due(u, "negative" + places, r, -in(a), 2, () -> u.arithmetic(9, r, a, b));
        for (boolean raw : RAW_OR_NOT) {
            get(r, a, b, raw);
            set(r, a, b, raw);
        }
        next(r, a, b);
    }

    /** A REGISTER that is none of these. */
    private static int other(int... places) {
        for (int i = 0; i < 12; i++) {
            boolean free = true;
            for (int place : places) {
                free &= place != i;
            }
            if (free) {
                return i;
            }
        }
        return NONE;
    }

    private static void get(int r, int t, int k, boolean raw) {
        check.sentence("REGISTER r becomes the GET of REGISTERS t and k; with raw true the RAW GET");
        LuaValues v = filled();
        int held = other(r, t, k);
        v.make(t, 4, 0);
        v.set(t, k, held, true);
        due(v, "get " + r + " " + t + " " + k, r, in(held), 2, () -> v.get(r, t, k, raw));
    }

    private static void set(int t, int k, int held, boolean raw) {
        check.sentence("The SET of REGISTERS t and k to REGISTER v; with raw true the RAW SET");
        String places = t + " " + k + " " + held;
        LuaValues v = filled();
        v.make(t, 4, 0);
        Object value = Held.in(v, held);
        int r = other(t, k, held);
        due(v, "set " + places, NONE, 0, 1, () -> v.set(t, k, held, raw));
        due(v, "get after set " + places, r, value, Held.kindOf(value), () -> v.get(r, t, k, raw));
        check.due("the KEY of set " + places, Held.kindOf(Held.in(v, k)), () -> v.next(r, t, nilIn(v, r)));
        check.due("the KEY of set " + places, true, () -> v.compare(3, r, k));
    }

    private static int nilIn(LuaValues v, int r) {
        v.make(r, 0, 0);
        return r;
    }

    private static void next(int r, int t, int k) {
        check.sentence("REGISTER r becomes the KEY of the TABLE in REGISTER t that comes next after the KEY in REGISTER"
                + " k (the first, if that is nil), nil if there is none: its kind.");
        LuaValues v = filled();
        int second = other(r, t, k);
        v.make(t, 4, 0);
        v.make(second, 5, 4);
        v.set(t, k, k, true);
        v.set(t, second, k, true);
        due(v, "next " + r + " " + t + " " + k, r, new Held.Fn(4), 5, () -> v.next(r, t, k));
    }

    private static void call(int r, int f, int a, int b) {
        check.sentence("REGISTER r becomes the CALL of REGISTER f with REGISTERS a and b at DEPTH 1: its kind.");
        for (int i = 1; i <= 2; i++) {
            LuaValues v = filled();
            v.make(f, 5, i);
            Object due = Held.in(v, i == 1 ? a : b);
            due(v, "FUNCTION " + i + " " + r + " " + f + " " + a + " " + b, r, due, Held.kindOf(due),
                    () -> v.call(r, f, a, b));
        }
    }
}
