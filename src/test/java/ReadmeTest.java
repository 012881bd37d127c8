import java.io.IOException;
import java.lang.reflect.Field;
import java.lang.reflect.Method;
import java.lang.reflect.Modifier;
import java.nio.file.Files;
import java.nio.file.Path;
import java.util.List;
import java.util.Set;
import java.util.TreeSet;
import java.util.regex.Matcher;
import java.util.regex.Pattern;

/** README.md: its example answers as it says, and it tells of every method and constant. Run where README.md is. */
public final class ReadmeTest {
    private static final Pattern CALL = Pattern.compile("x\\.(\\w+)\\(([^)]*)\\);\\s*// (-?\\d+): .+");

    private static int checks = 0;
    private static int wrong = 0;

    private static void due(boolean right, String complaint) {
        checks++;
        if (right) return;
        wrong++;
        System.out.println(complaint);
    }

    private static Method methodNamed(String name) {
        for (Method m : BeltSteps.class.getDeclaredMethods()) {
            if (Modifier.isPublic(m.getModifiers()) && m.getName().equals(name)) return m;
        }
        return null;
    }

    private static Object argument(String text, Class<?> type) {
        if (type == boolean.class) return Boolean.valueOf(text);
        if (type == long.class) return Long.valueOf(text);
        return Integer.valueOf(text);
    }

    private static long answer(BeltSteps x, Method method, String written) throws ReflectiveOperationException {
        String[] texts = written.split(", ");
        Class<?>[] types = method.getParameterTypes();
        Object[] values = new Object[types.length];
        for (int i = 0; i < types.length; i++) values[i] = argument(texts[i], types[i]);
        return ((Number) method.invoke(x, values)).longValue();
    }

    /** Makes the calls of the example in their order; answers the names of the methods that it calls. */
    private static Set<String> runExample(List<String> lines) throws ReflectiveOperationException {
        Set<String> called = new TreeSet<>();
        BeltSteps x = new BeltSteps();
        for (String line : lines) {
            if (!line.startsWith("x.")) continue;
            Matcher parts = CALL.matcher(line);
            boolean isCall = parts.matches();
            due(isCall, "no call with its answer: " + line);
            if (!isCall) continue;
            Method method = methodNamed(parts.group(1));
            due(method != null, "no such method: " + line);
            if (method == null) continue;
            long got = answer(x, method, parts.group(2));
            due(got == Long.parseLong(parts.group(3)), "answered " + got + ": " + line);
            called.add(method.getName());
        }
        return called;
    }

    private static void allMethods(String text, Set<String> called) {
        for (Method m : BeltSteps.class.getDeclaredMethods()) {
            if (!Modifier.isPublic(m.getModifiers())) continue;
            due(called.contains(m.getName()), "the example does not call " + m.getName());
            int parameters = m.getParameterCount();
            Pattern row = Pattern.compile("\\| `" + m.getName() + "\\(\\w+(, \\w+){" + (parameters - 1) + "}\\)` \\|");
            due(row.matcher(text).find(), "no row of the table tells of " + m.getName());
        }
    }

    private static void allConstants(String text) throws ReflectiveOperationException {
        for (Field f : BeltSteps.class.getDeclaredFields()) {
            if (!Modifier.isPublic(f.getModifiers())) continue;
            String row = "| `" + f.getName() + "` | " + f.getInt(null) + " |";
            due(text.contains(row), "no row is " + row);
        }
    }

    /** Every test of the project is named, and every test that is named is there. */
    private static void allTests(String text) throws IOException {
        Set<String> there = new TreeSet<>();
        try (var files = Files.list(Path.of("src/test/java"))) {
            files.forEach(file -> there.add(file.getFileName().toString()));
        }
        Set<String> named = new TreeSet<>();
        Matcher name = Pattern.compile("src/test/java/(\\w+\\.java)").matcher(text);
        while (name.find()) named.add(name.group(1));
        due(named.equals(there), "the tests are " + there + ", named are " + named);
    }

    public static void main(String[] args) throws IOException, ReflectiveOperationException {
        Path readme = Path.of("README.md");
        String text = Files.readString(readme);
        Set<String> called = runExample(Files.readAllLines(readme));
        allMethods(text, called);
        allConstants(text);
        allTests(text);
        System.out.println(checks + " checks, " + wrong + " are not as due");
        if (wrong != 0) System.exit(1);
    }
}
