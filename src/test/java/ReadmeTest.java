import java.io.IOException;
import java.lang.reflect.InvocationTargetException;
import java.lang.reflect.Method;
import java.lang.reflect.Modifier;
import java.nio.charset.StandardCharsets;
import java.nio.file.Files;
import java.nio.file.Path;
import java.util.Set;
import java.util.TreeSet;
import java.util.regex.Matcher;
import java.util.regex.Pattern;

/**
 * README.md is as the class is: each row of its tables that has a call is called, one behind the
 * other, and must answer as written; no call of the face is missing; its code is that of the tests.
 */
public final class ReadmeTest {
    private static final Tell T = new Tell("ReadmeTest");
    private static final Pattern CALL = Pattern.compile("\\| `x\\.(\\w+)\\(([^`]*)\\)` \\| (\\S+) \\| .*");
    private static final Pattern TELL = Pattern.compile("\\| `tell\\(x, \"([^`]*)\"\\)` \\| (\\S+) \\| .*");

    private final OppositeShores shores = new OppositeShores();
    private final Set<String> called = new TreeSet<>();

    public static void main(String[] args) throws Exception {
        Path root = Path.of(System.getProperty("root", "."));
        String page = read(root.resolve("README.md"));
        ReadmeTest test = new ReadmeTest();
        for (String line : page.split("\n")) {
            test.row(line);
        }
        T.is("calls on the page", test.called, face());
        String code = page.substring(page.indexOf("```java\n") + 8);
        code = code.substring(0, code.indexOf("```"));
        T.is("the code is that of Tell", squeezed(read(root.resolve("src/test/java/Tell.java")))
                .contains(squeezed(code)), true);
        tests(root, page);
        T.end();
    }

    private static String read(Path path) throws IOException {
        return new String(Files.readAllBytes(path), StandardCharsets.UTF_8);
    }

    private static String squeezed(String code) {
        return code.replaceAll("\\s+", " ").strip();
    }

    private static Set<String> face() {
        Set<String> names = new TreeSet<>();
        for (Method method : OppositeShores.class.getDeclaredMethods()) {
            if (Modifier.isPublic(method.getModifiers())) {
                names.add(method.getName());
            }
        }
        return names;
    }

    private void row(String line) throws IllegalAccessException {
        Matcher told = TELL.matcher(line);
        if (told.matches()) {
            T.is(line, "" + Tell.tell(shores, told.group(1)), told.group(2));
        }
        Matcher call = CALL.matcher(line);
        if (call.matches()) {
            called.add(call.group(1));
            T.is(line, answer(call.group(1), call.group(2)), call.group(3));
        }
        boolean looksLikeOne = line.startsWith("| `x.") || line.startsWith("| `tell(");
        T.is("understood: " + line, told.matches() || call.matches(), looksLikeOne);
    }

    private String answer(String name, String written) throws IllegalAccessException {
        String[] parts = written.isEmpty() ? new String[0] : written.split(", ");
        for (Method method : OppositeShores.class.getDeclaredMethods()) {
            if (method.getName().equals(name) && method.getParameterCount() == parts.length) {
                Object[] values = new Object[parts.length];
                for (int i = 0; i < parts.length; i++) {
                    values[i] = value(parts[i]);
                }
                return answer(method, values);
            }
        }
        return "no such call";
    }

    private static Object value(String part) {
        if (part.equals("true") || part.equals("false")) {
            return part.equals("true");
        }
        return part.equals("NONE") ? OppositeShores.NONE : (int) (long) Long.decode(part);
    }

    private String answer(Method method, Object[] values) throws IllegalAccessException {
        try {
            Object got = method.invoke(shores, values);
            return got == null ? "-" : got.equals(OppositeShores.NONE) ? "NONE" : got.toString();
        } catch (InvocationTargetException thrown) {
            return thrown.getCause().getClass().getSimpleName();
        }
    }

    /** Each test that .ci/run runs is named on the page. */
    private static void tests(Path root, String page) throws IOException {
        try (var files = Files.newDirectoryStream(root.resolve("src/test/java"), "*Test.java")) {
            for (Path file : files) {
                String name = file.getFileName().toString().replace(".java", "");
                T.is(name + " is on the page", page.contains("| `" + name + "` | "), true);
            }
        }
    }
}
