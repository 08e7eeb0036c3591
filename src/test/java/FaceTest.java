import java.lang.reflect.Constructor;
import java.lang.reflect.Field;
import java.lang.reflect.Method;
import java.lang.reflect.Modifier;
import java.util.Arrays;
import java.util.NoSuchElementException;
import java.util.Set;
import java.util.TreeSet;

/** The public face of the document, and no member beside it that others can see. */
public final class FaceTest {
    private static final Check check = new Check();

    public static void main(String[] args) {
        Class<?> face = LuaValues.class;
        Set<String> due = new TreeSet<>(Arrays.asList(
                "int make(int, int, long)", "int real(int, double, int)", "int move(int, int)",
                "int arithmetic(int, int, int, int)", "boolean compare(int, int, int)",
                "int get(int, int, int, boolean)", "int set(int, int, int, boolean)", "int meta(int, int)",
                "int length(int, int)", "int call(int, int, int, int)", "int next(int, int, int)",
                "int kind(int)", "long whole(int)", "double number(int)", "int count(int)"));
        Set<String> found = new TreeSet<>();
        Set<String> publicNames = new TreeSet<>();
        for (Method method : face.getDeclaredMethods()) {
            if (!Modifier.isPrivate(method.getModifiers())) {
                found.add(told(method));
                publicNames.add(method.getName());
                check.due("public " + method.getName(), true, () -> Modifier.isPublic(method.getModifiers()));
            }
        }
        check.due("the methods", due, () -> found);
        check.due("final", true, () -> Modifier.isFinal(face.getModifiers()));
        Constructor<?>[] constructors = face.getDeclaredConstructors();
        check.due("constructors", 1, () -> constructors.length);
        check.due("its parameters", 0, () -> constructors[0].getParameterCount());
        for (Field field : face.getDeclaredFields()) {
            check.due("private " + field.getName(), true, () -> Modifier.isPrivate(field.getModifiers()));
        }
        for (Method method : face.getDeclaredMethods()) {
            if (Modifier.isPrivate(method.getModifiers())) {
                check.due("name " + method.getName(), false, () -> publicNames.contains(method.getName()));
            }
        }
        for (Class<?> inside : face.getDeclaredClasses()) {
            check.due("static " + inside.getName(), true, () -> Modifier.isStatic(inside.getModifiers()));
            check.due("not public " + inside.getName(), false, () -> Modifier.isPublic(inside.getModifiers()));
        }
        exceptions();
        check.end("FaceTest");
    }

    /** What each method throws, as its own lines say it. */
    private static void exceptions() {
        Class<?> index = IndexOutOfBoundsException.class;
        Class<?> argument = IllegalArgumentException.class;
        Class<?> state = IllegalStateException.class;
        Class<?> arithmetic = ArithmeticException.class;
        Class<?> unsupported = UnsupportedOperationException.class;
        throwing("make", index, argument, state);
        throwing("real", index, argument, arithmetic);
        throwing("move", index);
        throwing("arithmetic", index, argument, arithmetic, unsupported, state);
        throwing("compare", index, argument, unsupported, state);
        throwing("get", index, unsupported, state);
        throwing("set", index, unsupported, argument, state);
        throwing("meta", index, unsupported);
        throwing("length", index, unsupported, state);
        throwing("call", index, unsupported, state);
        throwing("next", index, unsupported, NoSuchElementException.class);
        throwing("kind", index);
        throwing("whole", index, arithmetic);
        throwing("number", index, unsupported);
        throwing("count");
    }

    private static void throwing(String name, Class<?>... exceptions) {
        for (Method method : LuaValues.class.getDeclaredMethods()) {
            if (method.getName().equals(name)) {
                check.due("what " + name + " throws", Set.of(exceptions), () -> Set.of(method.getExceptionTypes()));
            }
        }
    }

    private static String told(Method method) {
        StringBuilder text = new StringBuilder();
        text.append(method.getReturnType().getName()).append(' ').append(method.getName()).append('(');
        String between = "";
        for (Class<?> parameter : method.getParameterTypes()) {
            text.append(between).append(parameter.getName());
            between = ", ";
        }
        return text.append(')').toString();
    }
}
