import java.io.IOException;
import java.lang.reflect.Method;
import java.lang.reflect.Modifier;
import java.nio.charset.StandardCharsets;
import java.nio.file.DirectoryStream;
import java.nio.file.Files;
import java.nio.file.Path;
import java.util.Set;
import java.util.TreeSet;
import java.util.regex.Matcher;
import java.util.regex.Pattern;

/** README.md's examples answer what their comments say, show every call of the face, and every test is told of. */
public final class ReadmeTest {
    private static final String MAKES = "CallWalker walker = new CallWalker();";
    private static final Pattern CALL = Pattern.compile("walker\\.(\\w+)\\((.*)\\); +// -> (-?\\d+)( .*)?");

    private final Checks checks = new Checks();
    private final Set<String> shown = new TreeSet<>();
    private CallWalker walker = new CallWalker();

    public static void main(String[] args) throws IOException, ReflectiveOperationException {
        new ReadmeTest().go(Files.readString(Path.of("README.md"), StandardCharsets.UTF_8));
    }

    private void go(String text) throws IOException, ReflectiveOperationException {
        boolean inside = false;
        for (String line : text.split("\n")) {
            if (line.startsWith("```")) {
                inside = line.equals("```java");
            } else if (inside && !line.isEmpty()) {
                example(line);
            }
        }
        for (Method method : CallWalker.class.getDeclaredMethods()) {
            if (Modifier.isPublic(method.getModifiers())) {
                checks.same("an example shows " + method.getName(), shown.contains(method.getName()) ? 1 : 0, 1);
            }
        }
        try (DirectoryStream<Path> tests = Files.newDirectoryStream(Path.of("src/test/java"), "*.java")) {
            for (Path test : tests) {
                String name = test.getFileName().toString().replace(".java", "");
                checks.same("README.md tells of " + name, text.contains("`" + name + "`") ? 1 : 0, 1);
            }
        }
        checks.end();
    }

    private void example(String line) throws ReflectiveOperationException {
        Matcher call = CALL.matcher(line);
        if (line.equals(MAKES)) {
            walker = new CallWalker();
        } else if (call.matches()) {
            shown.add(call.group(1));
            checks.same(line, answer(call.group(1), call.group(2)), Long.parseLong(call.group(3)));
        } else {
            checks.sameText("an example's line", line, "a call with its answer");
        }
    }

    private long answer(String name, String arguments) throws ReflectiveOperationException {
        String[] written = arguments.isEmpty() ? new String[0] : arguments.split(", ");
        for (Method method : CallWalker.class.getDeclaredMethods()) {
            if (Modifier.isPublic(method.getModifiers()) && method.getName().equals(name)) {
                Object[] values = new Object[written.length];
                for (int i = 0; i < values.length; i++) {
                    values[i] = value(method.getParameterTypes()[i], written[i]);
                }
                return ((Number) method.invoke(walker, values)).longValue();
            }
        }
        throw new IllegalStateException("README.md shows a call that is not there: " + name);
    }

    private static Object value(Class<?> type, String written) {
        if (type == boolean.class) {
            return Boolean.valueOf(written);
        }
        if (type == long.class) {
            return Long.valueOf(written);
        }
        return Integer.valueOf(written);
    }
}
