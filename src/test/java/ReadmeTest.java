import java.io.IOException;
import java.lang.reflect.Field;
import java.lang.reflect.Method;
import java.lang.reflect.Modifier;
import java.nio.file.Files;
import java.nio.file.Path;
import java.util.regex.Matcher;
import java.util.regex.Pattern;

/** The examples of README.md answer what they say, and README.md names every call with its arguments. */
public final class ReadmeTest {
    private static final Pattern CALL = Pattern.compile("x\\.(\\w+)\\(([-0-9, ]*)\\); +// (-?[0-9]+)(:.*)?");
    private static final String NEW_OBJECT = "LooksTogether x = new LooksTogether();";

    private final Check check = new Check("readme");
    private int calls = 0;

    public static void main(String[] args) throws IOException, ReflectiveOperationException {
        String readme = Files.readString(Path.of("README.md"));
        ReadmeTest test = new ReadmeTest();
        test.examples(readme);
        test.names(readme);
        test.check.end();
    }

    private void examples(String readme) throws ReflectiveOperationException {
        LooksTogether x = null;
        boolean inside = false;
        for (String line : readme.split("\n")) {
            if (line.startsWith("```")) {
                inside = line.equals("```java");
            } else if (inside && line.equals(NEW_OBJECT)) {
                x = new LooksTogether();
            } else if (inside) {
                example(x, line);
            }
        }
        check.due("the examples have calls", calls > 0 ? 1 : 0, 1);
    }

    private void example(LooksTogether x, String line) throws ReflectiveOperationException {
        Matcher parts = CALL.matcher(line);
        boolean readable = x != null && parts.matches();
        check.due("README.md: can be read: " + line, readable ? 1 : 0, 1);
        if (readable) {
            calls++;
            check.due("README.md: " + line, call(x, parts.group(1), parts.group(2)), Integer.parseInt(parts.group(3)));
        }
    }

    private static int call(LooksTogether x, String name, String list) throws ReflectiveOperationException {
        String[] words = list.isBlank() ? new String[0] : list.split(", ");
        Class<?>[] types = new Class<?>[words.length];
        Object[] numbers = new Object[words.length];
        for (int i = 0; i < words.length; i++) {
            types[i] = int.class;
            numbers[i] = Integer.parseInt(words[i]);
        }
        return (Integer) LooksTogether.class.getMethod(name, types).invoke(x, numbers);
    }

    private void names(String readme) throws ReflectiveOperationException {
        for (Method m : LooksTogether.class.getDeclaredMethods()) {
            if (Modifier.isPublic(m.getModifiers())) {
                String list = m.getParameterCount() == 0 ? "" : "\\w+" + ", \\w+".repeat(m.getParameterCount() - 1);
                boolean named = Pattern.compile("`" + m.getName() + "\\(" + list + "\\)`").matcher(readme).find();
                check.due("README.md names " + m.getName(), named ? 1 : 0, 1);
            }
        }
        for (Field f : LooksTogether.class.getFields()) {
            boolean named = readme.contains("| `" + f.getName() + "` | " + f.getInt(null) + " |");
            check.due("README.md names " + f.getName(), named ? 1 : 0, 1);
        }
    }
}
