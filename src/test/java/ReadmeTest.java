import java.io.IOException;
import java.lang.reflect.InvocationTargetException;
import java.lang.reflect.Method;
import java.nio.file.Files;
import java.nio.file.Path;
import java.util.HashSet;
import java.util.Set;
import java.util.regex.Matcher;
import java.util.regex.Pattern;

/** README.md: every call of its example answers what stands behind it. It is run from the project's directory. */
public final class ReadmeTest {
    private static final Pattern CALL = Pattern.compile("editor\\.(\\w+)\\((.*)\\);\\s+// (-?\\d+).*");
    private static final int FACE = 13;

    private ReadmeTest() {
    }

    public static void main(String[] args) throws IOException, ReflectiveOperationException {
        Check check = new Check();
        EditorCore editor = new EditorCore();
        Set<String> called = new HashSet<>();
        for (String line : Files.readAllLines(Path.of("README.md"))) {
            if (!line.startsWith("editor.")) {
                continue;
            }
            Matcher call = CALL.matcher(line);
            if (!call.matches()) {
                check.wrong("no answer stands behind: " + line);
                continue;
            }
            called.add(call.group(1));
            check.due(line, answer(editor, call.group(1), call.group(2)), Integer.parseInt(call.group(3)));
        }
        check.due("methods shown", called.size(), FACE);
        check.end();
    }

    private static int answer(EditorCore editor, String name, String values)
            throws IllegalAccessException, InvocationTargetException {
        for (Method method : EditorCore.class.getDeclaredMethods()) {
            if (method.getName().equals(name)) {
                String[] written = values.split(", ");
                Object[] given = new Object[written.length];
                for (int i = 0; i < given.length; i++) {
                    given[i] = value(written[i]);
                }
                return (int) method.invoke(editor, given);
            }
        }
        throw new IllegalArgumentException("no such method: " + name);
    }

    private static Object value(String written) {
        if (written.startsWith("'")) {
            return (int) written.charAt(1);
        }
        if (written.equals("true") || written.equals("false")) {
            return Boolean.valueOf(written);
        }
        return Integer.valueOf(written);
    }
}
