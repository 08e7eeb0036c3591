import java.io.IOException;
import java.lang.reflect.InvocationTargetException;
import java.lang.reflect.Method;
import java.nio.file.Files;
import java.nio.file.Path;
import java.util.Set;
import java.util.TreeSet;
import java.util.regex.Matcher;
import java.util.regex.Pattern;
import java.util.stream.Collectors;
import java.util.stream.Stream;

/** README.md tells the truth: its examples answer what stands behind them, and its table names every test. */
public final class ReadmeTest {
    private static final Pattern EXAMPLE = Pattern.compile("values\\.(\\w+)\\((.*)\\); +// ([^:]+): .*");
    private static final Pattern TEST = Pattern.compile("\\| `(\\w+Test)` \\|.*");
    private static final Check check = new Check();

    public static void main(String[] args) throws IOException {
        LuaValues values = null;
        int examples = 0;
        Set<String> named = new TreeSet<>();
        for (String line : Files.readAllLines(Path.of("README.md"))) {
            Matcher example = EXAMPLE.matcher(line);
            Matcher test = TEST.matcher(line);
            if (line.equals("LuaValues values = new LuaValues();")) {
                values = new LuaValues();
            } else if (example.matches()) {
                LuaValues asked = values;
                examples++;
                check.due(line, example.group(3), () -> answer(asked, example.group(1), example.group(2)));
            } else if (line.startsWith("values.")) {
                check.due(line, "an example with its answer", () -> "none that this test can read");
            } else if (test.matches()) {
                named.add(test.group(1));
            }
        }
        int found = examples;
        check.due("examples are there", true, () -> found > 0);
        Set<String> tests = testsOfTheProject();
        check.due("the tests that the table names", tests, () -> named);
        check.end("ReadmeTest");
    }

    private static Set<String> testsOfTheProject() throws IOException {
        try (Stream<Path> files = Files.list(Path.of("src/test/java"))) {
            return files.map(file -> file.getFileName().toString().replace(".java", ""))
                    .filter(name -> name.endsWith("Test")).collect(Collectors.toCollection(TreeSet::new));
        }
    }

    private static String answer(LuaValues values, String name, String written) {
        for (Method method : LuaValues.class.getMethods()) {
            if (method.getName().equals(name)) {
                return answer(values, method, written.split(", "));
            }
        }
        return "no such call";
    }

    private static String answer(LuaValues values, Method method, String[] written) {
        Class<?>[] types = method.getParameterTypes();
        if (types.length != written.length) {
            return "another number of arguments";
        }
        Object[] arguments = new Object[types.length];
        for (int i = 0; i < types.length; i++) {
            arguments[i] = argument(types[i], written[i]);
        }
        try {
            return String.valueOf(method.invoke(values, arguments));
        } catch (InvocationTargetException e) {
            return "throws " + e.getCause().getClass().getSimpleName();
        } catch (IllegalAccessException e) {
            return "not to be called";
        }
    }

    private static Object argument(Class<?> type, String written) {
        if (type == int.class) {
            return Integer.valueOf(written);
        }
        if (type == long.class) {
            return Long.valueOf(written);
        }
        return type == double.class ? (Object) Double.valueOf(written) : (Object) Boolean.valueOf(written);
    }
}
