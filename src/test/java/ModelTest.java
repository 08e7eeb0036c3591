import java.util.Random;

/** Long runs of calls picked by a fixed seed: the program and the model answer the same. */
public final class ModelTest {
    private static final int RUNS = 20000;
    // With what is asked at the end a run stays within the 512 calls of an object.
    private static final int STEPS = 450;
    private static final double[] FLOATS = {0.0, -0.0, 0.5, -0.5, 1.0, 2.0, 3.0, 2.5, -2.5, 8.0, 0x1p53, 0x1p63,
        -0x1p63, 0x1.fffffffffffffp62, -0x1.0000000000001p63, 0x1p1000, -0x1p1000, 0x1p-1000, -0x1p-1000, 0.1,
        Double.MAX_VALUE, Double.MIN_VALUE, 7 * Double.MIN_VALUE, Double.POSITIVE_INFINITY};
    private static final long[] INTS = {Long.MIN_VALUE, Long.MIN_VALUE + 1, -3, -2, -1, 0, 1, 2, 3, 7, 8,
        (1L << 53) + 1, 1L << 53, Long.MAX_VALUE, Long.MAX_VALUE - 1, Long.MAX_VALUE - 1023};
    private static final Check check = new Check();

    public static void main(String[] args) {
        for (int run = 0; run < RUNS; run++) {
            run(run, new Random(run));
        }
        check.end("ModelTest");
    }

    private static void run(int run, Random random) {
        LuaValues v = new LuaValues();
        Model m = new Model();
        // A few registers only, in most runs, so that TABLES and what they say of each other meet more often.
        int registers = 3 + random.nextInt(10);
        for (int i = 0; i < STEPS; i++) {
            String what = "run " + run + " call " + i + " ";
            int r = register(random, registers);
            int a = register(random, registers);
            int b = register(random, registers);
            int c = register(random, registers);
            boolean raw = random.nextBoolean();
            step(what, v, m, random, new int[] {r, a, b, c}, raw);
        }
        state("end of run " + run + " ", v, m);
    }

    private static int register(Random random, int registers) {
        return random.nextInt(200) == 0 ? random.nextInt(3) * 13 - 1 : random.nextInt(Math.min(registers, 12));
    }

    private static void step(String what, LuaValues v, Model m, Random random, int[] p, boolean raw) {
        int r = p[0];
        int a = p[1];
        int b = p[2];
        int c = p[3];
        switch (random.nextInt(19)) {
            case 0, 1, 2 -> {
                int kind = random.nextInt(20) == 0 ? random.nextInt(9) - 1 : new int[] {0, 1, 2, 2, 4, 4, 5, 5}[random.nextInt(8)];
                long n = kind == 5 ? random.nextInt(random.nextInt(20) == 0 ? 9 : 6)
                        : random.nextInt(3) == 0 ? INTS[random.nextInt(INTS.length)] : random.nextInt(21);
                same(what + "make " + r + " " + kind + " " + n, () -> m.make(r, kind, n), () -> v.make(r, kind, n));
            }
            case 3 -> {
                double x = FLOATS[random.nextInt(FLOATS.length)];
                int e = random.nextInt(3) == 0 ? random.nextInt(605) - 302 : 0;
                same(what + "real " + r + " " + x + " " + e, () -> m.real(r, x, e), () -> v.real(r, x, e));
            }
            case 4 -> same(what + "move", () -> m.move(r, a), () -> v.move(r, a));
            case 5, 6 -> {
                int o = random.nextInt(40) == 0 ? 10 : random.nextInt(10);
                same(what + "arithmetic " + o, () -> m.arithmetic(o, r, a, b), () -> v.arithmetic(o, r, a, b));
            }
            case 7 -> {
                int o = random.nextInt(40) == 0 ? 4 : random.nextInt(4);
                same(what + "compare " + o, () -> m.compare(o, a, b), () -> v.compare(o, a, b));
            }
            case 8 -> same(what + "get", () -> m.get(r, a, b, raw), () -> v.get(r, a, b, raw));
            case 9, 10, 11 -> same(what + "set", () -> m.set(a, b, c, raw), () -> v.set(a, b, c, raw));
            case 12 -> same(what + "meta", () -> m.meta(a, b), () -> v.meta(a, b));
            case 13 -> same(what + "length", () -> m.length(r, a), () -> v.length(r, a));
            case 14 -> same(what + "call", () -> m.call(r, a, b, c), () -> v.call(r, a, b, c));
            case 15 -> same(what + "kind", () -> m.kind(r), () -> v.kind(r));
            case 16 -> same(what + "whole", () -> m.whole(r), () -> v.whole(r));
            case 17 -> same(what + "number", () -> m.number(r), () -> v.number(r));
            default -> same(what + "next", () -> m.next(r, a, b), () -> v.next(r, a, b));
        }
    }

    private static void same(String what, Check.Call model, Check.Call program) {
        check.due(what, Check.answer(model), program);
    }

    private static void state(String what, LuaValues v, Model m) {
        for (int i = 0; i < 12; i++) {
            int r = i;
            same(what + "kind " + r, () -> m.kind(r), () -> v.kind(r));
            same(what + "whole " + r, () -> m.whole(r), () -> v.whole(r));
            same(what + "number " + r, () -> m.number(r), () -> v.number(r));
        }
        for (int i = 0; i < 4; i++) {
            int asked = i;
            same(what + "count " + asked, () -> m.count(asked), () -> v.count(asked));
        }
    }
}
