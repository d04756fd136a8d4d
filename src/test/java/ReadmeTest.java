import java.lang.reflect.InvocationTargetException;
import java.lang.reflect.Method;
import java.lang.reflect.Modifier;
import java.nio.file.DirectoryStream;
import java.nio.file.Files;
import java.nio.file.Path;
import java.util.List;
import java.util.regex.Matcher;
import java.util.regex.Pattern;

/** README.md tells the truth: its run of calls answers as written there, and it names all calls and tests. */
public final class ReadmeTest {
    private static final Pattern CALL = Pattern.compile("^x\\.(\\w+)\\((.*)\\); // (\\S+).*$");
    private static final Pattern TOLD = Pattern.compile("^tell\\(x, \"(.*)\"\\);$");

    public static void main(String[] args) throws Exception {
        Path root = Path.of(System.getenv("GUILTY_SLEEP_SOURCE")).toAbsolutePath().resolve("../../../..").normalize();
        List<String> lines = Files.readAllLines(root.resolve("README.md"));
        runs(lines);
        names(String.join("\n", lines), root.resolve("src/test/java"));
        Check.end("ReadmeTest");
    }

    private static void runs(List<String> lines) throws Exception {
        GuiltySleep x = new GuiltySleep();
        int calls = 0;
        for (String line : lines) {
            Matcher call = CALL.matcher(line);
            Matcher told = TOLD.matcher(line);
            if (call.matches()) {
                calls++;
                Check.due("README: " + line, answer(x, call.group(1), call.group(2)), value(call.group(3)));
            } else if (told.matches()) {
                Check.feed(x, told.group(1));
            } else {
                Check.due("README, not understood: " + line, line.startsWith("x.") || line.startsWith("tell("), false);
            }
        }
        Check.due("calls of the README's run", calls > 20, true);
    }

    private static long answer(GuiltySleep x, String name, String written) throws Exception {
        String[] parts = written.isEmpty() ? new String[0] : written.split(", ");
        for (Method m : GuiltySleep.class.getMethods()) {
            if (m.getName().equals(name) && m.getParameterCount() == parts.length) {
                Object[] values = new Object[parts.length];
                for (int i = 0; i < parts.length; i++) {
                    values[i] = fit(m.getParameterTypes()[i], value(parts[i]));
                }
                return number(invoke(m, x, values));
            }
        }
        throw new IllegalStateException("no call " + name);
    }

    private static Object invoke(Method m, GuiltySleep x, Object[] values) throws Exception {
        try {
            return m.invoke(x, values);
        } catch (InvocationTargetException e) {
            throw new IllegalStateException(m + " threw", e.getCause());
        }
    }

    private static Object fit(Class<?> type, long value) {
        if (type == boolean.class) {
            return value == 1;
        }
        if (type == long.class) {
            return value;
        }
        return (int) value;
    }

    private static long number(Object answer) {
        return answer instanceof Boolean ? (Boolean) answer ? 1 : 0 : (Integer) answer;
    }

    private static long value(String written) {
        switch (written) {
            case "true": return 1;
            case "false": return 0;
            case "NONE": return GuiltySleep.NONE;
            case "HIDDEN": return GuiltySleep.HIDDEN;
            default: return Long.decode(written.replace("L", ""));
        }
    }

    private static void names(String page, Path tests) throws Exception {
        for (Method m : GuiltySleep.class.getDeclaredMethods()) {
            if (Modifier.isPublic(m.getModifiers())) {
                Check.due("README names " + m.getName(), page.contains("`" + m.getName() + "`"), true);
            }
        }
        try (DirectoryStream<Path> files = Files.newDirectoryStream(tests, "*.java")) {
            for (Path file : files) {
                String name = file.getFileName().toString().replace(".java", "");
                Check.due("README names " + name, page.contains("`" + name + "`"), true);
            }
        }
        Check.due("README says how to run the tests", page.contains(".ci/run"), true);
    }
}
