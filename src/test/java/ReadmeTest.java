import java.io.IOException;
import java.lang.reflect.Method;
import java.nio.file.Files;
import java.nio.file.Path;
import java.util.regex.Matcher;
import java.util.regex.Pattern;

/** README.md: each call in its examples answers what stands behind it there. */
public final class ReadmeTest {
    private static final Checks checks = new Checks();
    private static final Pattern CALL = Pattern.compile("x\\.(\\w+)\\(([^)]*)\\); *// (-?\\d+|[A-Z]+)(:.*)?");
    private static final String NEW_OBJECT = "KeySealer x = new KeySealer();";

    public static void main(String[] args) throws IOException, ReflectiveOperationException {
        boolean inside = false;
        int examples = 0;
        KeySealer x = new KeySealer();
        for (String line : Files.readAllLines(Path.of(System.getProperty("project", "."), "README.md"))) {
            if (line.startsWith("```")) {
                inside = line.equals("```java");
                examples += inside ? 1 : 0;
            } else if (inside && line.equals(NEW_OBJECT)) {
                x = new KeySealer();
            } else if (inside && !line.isEmpty()) {
                call(x, line);
            }
        }
        checks.due("examples", examples, 3);
        checks.end("ReadmeTest");
    }

    private static void call(KeySealer x, String line) throws ReflectiveOperationException {
        Matcher parts = CALL.matcher(line);
        if (!parts.matches()) {
            checks.due(line, "no call with its answer", "one");
            return;
        }
        checks.due(line, answer(x, parts.group(1), parts.group(2).split(", *")), due(parts.group(3)));
    }

    private static int due(String answer) throws ReflectiveOperationException {
        return Character.isLetter(answer.charAt(0)) ? KeySealer.class.getField(answer).getInt(null) : Integer.parseInt(answer);
    }

    private static int answer(KeySealer x, String name, String[] numbers) throws ReflectiveOperationException {
        for (Method method : KeySealer.class.getDeclaredMethods()) {
            if (method.getName().equals(name) && method.getParameterCount() == numbers.length) {
                Object[] values = new Object[numbers.length];
                for (int i = 0; i < numbers.length; i++) {
                    long value = Long.decode(numbers[i].replace("L", ""));
                    values[i] = method.getParameterTypes()[i] == long.class ? (Object) value : (Object) (int) value;
                }
                return (int) method.invoke(x, values);
            }
        }
        throw new NoSuchMethodException(name);
    }
}
