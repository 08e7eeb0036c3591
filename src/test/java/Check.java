/** Counts the answers that are not as due, and prints them. */
final class Check {
    interface Call {
        Object run();
    }

    private int wrong = 0;
    private int done = 0;

    void due(String what, Object want, Call call) {
        done++;
        Object got = answer(call);
        if (!want.equals(got)) {
            wrong++;
            System.out.println(what + ": answered " + got + ", due is " + want);
        }
    }

    /** The call throws the exception, and what the registers hold is the same after it. */
    void refused(String what, LuaValues values, Class<? extends RuntimeException> want, Call call) {
        String before = state(values);
        due(what, thrown(want), call);
        due(what + " changes nothing", before, () -> state(values));
    }

    void end(String name) {
        System.out.println(name + ": " + (done - wrong) + " answers as due, " + wrong + " not");
        if (wrong != 0) {
            System.exit(1);
        }
    }

    static Object answer(Call call) {
        try {
            return call.run();
        } catch (RuntimeException e) {
            return thrown(e.getClass());
        }
    }

    static String thrown(Class<?> exception) {
        return "throws." + exception.getSimpleName();
    }

    /** What tells a changed object from an unchanged one, in few calls: an object has only 512. */
    static String state(LuaValues values) {
        StringBuilder text = new StringBuilder();
        for (int r = 0; r < 12; r++) {
            int register = r;
            text.append(answer(() -> values.whole(register))).append(' ');
        }
        for (int what = 0; what < 4; what++) {
            text.append(values.count(what)).append(' ');
        }
        return text.toString();
    }
}
