/** Counts the answers that are not as due, and prints them. */
final class Check {
    interface Call {
        Object run();
    }

    interface Step {
        Object on(LuaValues values);
    }

    interface Scene {
        void fill(LuaValues values);
    }

    private int wrong = 0;
    private int done = 0;
    private String sentence = "";

    /** The words of the document that the checks from here on hold the program to. */
    void sentence(String words) {
        sentence = "\"" + words + "\" ";
    }

    void due(String what, Object want, Call call) {
        done++;
        Object got = answer(call);
        if (!want.equals(got)) {
            wrong++;
            System.out.println(sentence + what + ": answered " + got + ", due is " + want);
        }
    }

    /** The call throws the exception, and what the registers hold is the same after it. */
    void refused(String what, LuaValues values, Class<? extends RuntimeException> want, Call call) {
        String before = state(values);
        due(what, thrown(want), call);
        due(what + " changes nothing", before, () -> state(values));
    }

    /**
     * On a new object filled like that the step throws the exception, and then all that the face tells of the
     * object is what it tells of a twin that was never asked.
     */
    void refusedIn(String what, Scene scene, Class<? extends RuntimeException> want, Step step) {
        LuaValues asked = new LuaValues();
        LuaValues twin = new LuaValues();
        scene.fill(asked);
        scene.fill(twin);
        due(what, thrown(want), () -> step.on(asked));
        due(what + " changes nothing", Held.portrait(twin), () -> Held.portrait(asked));
    }

    void end(String name) {
        System.out.println(name + ": " + (done - wrong) + " answers as due, " + wrong + " not");
        if (wrong != 0) {
            System.exit(1);
        }
    }

    static Object answer(Call call) {
        try {
            return call.run();
        } catch (RuntimeException e) {
            return thrown(e.getClass());
        }
    }

    static String thrown(Class<?> exception) {
        return "throws." + exception.getSimpleName();
    }

    /** What tells a changed object from an unchanged one, in few calls: an object has only 512. */
    static String state(LuaValues values) {
        StringBuilder text = new StringBuilder();
        for (int r = 0; r < 12; r++) {
            int register = r;
            text.append(answer(() -> values.whole(register))).append(' ');
        }
        for (int what = 0; what < 4; what++) {
            text.append(values.count(what)).append(' ');
        }
        return text.toString();
    }
}
