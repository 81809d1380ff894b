import java.io.IOException;
import java.lang.reflect.Method;
import java.lang.reflect.Modifier;
import java.nio.file.Files;
import java.nio.file.Path;
import java.util.List;
import java.util.regex.Matcher;
import java.util.regex.Pattern;

/** README.md, from the project's folder: its example answers as told there, and its table has every call. */
public final class ReadmeTest {
    private static final Pattern CALL = Pattern.compile("x\\.(\\w+)\\(([^)]*)\\);\\s*// (-?\\d+): .*");
    private static final Pattern TEXT = Pattern.compile("for \\(char sign : \"([^\"]*)\"\\.toCharArray\\(\\)\\) x\\.feed\\(sign\\);");

    public static void main(String[] args) throws IOException, ReflectiveOperationException {
        List<String> lines = Files.readAllLines(Path.of("README.md"));
        example(lines);
        table(lines);
        Due.end();
    }

    private static void example(List<String> lines) throws ReflectiveOperationException {
        int start = lines.indexOf("```java");
        LargeBubble x = new LargeBubble();
        Due.due("README: the example begins with a new object",
            lines.get(start + 1).equals("LargeBubble x = new LargeBubble();") ? 1 : 0, 1);
        int calls = 0;
        for (int i = start + 2; !lines.get(i).equals("```"); i++) {
            Matcher text = TEXT.matcher(lines.get(i));
            Matcher call = CALL.matcher(lines.get(i));
            if (text.matches()) Due.feed(x, text.group(1));
            else if (call.matches()) Due.due("README: " + lines.get(i), answer(x, call), Long.parseLong(call.group(3)));
            else Due.due("README: a line of the example that can't be read: " + lines.get(i), 0, 1);
            calls++;
        }
        Due.due("README: the example has calls", calls > 0 ? 1 : 0, 1);
    }

    private static long answer(LargeBubble x, Matcher call) throws ReflectiveOperationException {
        Method method = called(call.group(1));
        String[] words = call.group(2).isEmpty() ? new String[0] : call.group(2).split(", ");
        Object[] numbers = new Object[words.length];
        for (int i = 0; i < words.length; i++) numbers[i] = Integer.parseInt(words[i]);
        return ((Number) method.invoke(x, numbers)).longValue();
    }

    private static Method called(String name) throws NoSuchMethodException {
        for (Method method : LargeBubble.class.getDeclaredMethods()) {
            if (method.getName().equals(name) && Modifier.isPublic(method.getModifiers())) return method;
        }
        throw new NoSuchMethodException(name);
    }

    private static void table(List<String> lines) {
        StringBuilder names = new StringBuilder();
        for (String line : lines) {
            if (line.startsWith("| `")) names.append(line, 0, line.indexOf('|', 1));
        }
        for (Method method : LargeBubble.class.getDeclaredMethods()) {
            if (!Modifier.isPublic(method.getModifiers())) continue;
            String name = "`" + method.getName() + "`";
            Due.due("README: the table has " + name, names.indexOf(name) >= 0 ? 1 : 0, 1);
        }
    }
}
