import java.io.IOException;
import java.lang.reflect.Method;
import java.lang.reflect.Modifier;
import java.nio.file.Files;
import java.nio.file.Path;
import java.util.Arrays;
import java.util.List;
import java.util.regex.Matcher;
import java.util.regex.Pattern;

/** README.md: its example answers as it says there, and it tells of every call. */
public final class ReadmeTest {
    private static final Check CHECK = new Check();
    private static final Pattern MADE =
            Pattern.compile("PacedMux mux = new PacedMux\\(([-\\d]+), ([-\\d]+)\\);");
    private static final Pattern CALLED =
            Pattern.compile("mux\\.(\\w+)\\(([-\\d, ]*)\\);(?:\\s*// ([-\\d]+): .*)?");

    public static void main(String[] args) throws IOException, ReflectiveOperationException {
        List<String> lines = Files.readAllLines(Path.of("README.md"));
        int calls = runExample(lines);
        int methods = 0;
        for (Method method : PacedMux.class.getDeclaredMethods()) {
            if (Modifier.isPublic(method.getModifiers())) {
                methods++;
                isTold(method.getName(), lines);
            }
        }
        CHECK.due("the calls of the face", methods, 14);
        CHECK.due("the example has each of them", calls >= methods ? 1 : 0, 1);
        CHECK.end();
    }

    private static int runExample(List<String> lines) throws ReflectiveOperationException {
        PacedMux mux = null;
        int calls = 0;
        for (String line : lines) {
            Matcher made = MADE.matcher(line);
            Matcher called = CALLED.matcher(line);
            if (made.matches()) {
                mux = new PacedMux(Integer.parseInt(made.group(1)),
                        Integer.parseInt(made.group(2)));
            } else if (called.matches() && mux != null) {
                call(mux, line, called.group(1), numbers(called.group(2)), called.group(3));
                calls++;
            } else if (line.contains("mux.")) {
                CHECK.due("can be read: " + line, 0, 1);
            }
        }
        return calls;
    }

    private static Object[] numbers(String text) {
        if (text.isEmpty()) {
            return new Object[0];
        }
        String[] parts = text.split(", ");
        Object[] numbers = new Object[parts.length];
        for (int i = 0; i < parts.length; i++) {
            numbers[i] = Integer.valueOf(parts[i]);
        }
        return numbers;
    }

    private static void call(PacedMux mux, String line, String name, Object[] numbers,
            String want) throws ReflectiveOperationException {
        Class<?>[] types = new Class<?>[numbers.length];
        Arrays.fill(types, int.class);
        Object got = PacedMux.class.getMethod(name, types).invoke(mux, numbers);
        if (want == null) {
            CHECK.due("answers nothing: " + line, got == null ? 1 : 0, 1);
        } else {
            CHECK.due(line, (Integer) got, Integer.parseInt(want));
        }
    }

    /** Each call stands in the example and in the table of calls. */
    private static void isTold(String name, List<String> lines) {
        boolean shown = false;
        boolean listed = false;
        for (String line : lines) {
            shown |= line.startsWith("mux." + name + "(");
            listed |= line.startsWith("| `" + name + "(");
        }
        CHECK.due("the example has " + name, shown ? 1 : 0, 1);
        CHECK.due("the table has " + name, listed ? 1 : 0, 1);
    }
}
