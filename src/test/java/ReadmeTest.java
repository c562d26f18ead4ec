import java.lang.reflect.Field;
import java.lang.reflect.Method;
import java.lang.reflect.Modifier;
import java.nio.file.Files;
import java.nio.file.Path;
import java.util.Collections;
import java.util.HashMap;
import java.util.Map;
import java.util.regex.Matcher;
import java.util.regex.Pattern;

/** README.md's run of calls answers as README.md says, and nothing of the face is left out there. */
public final class ReadmeTest {
    private static final Pattern BLOCK = Pattern.compile("(?s)```java\n(.*?)```");
    private static final Pattern CALL =
            Pattern.compile("(?:int (\\w+) = )?x\\.(\\w+)\\(([^)]*)\\); +// (-?\\d+)(?::.*)?");

    private static final ClassRunner x = new ClassRunner();
    private static final Map<String, Long> names = new HashMap<>();

    public static void main(String[] args) throws Exception {
        String text = Files.readString(Path.of("README.md"));
        Matcher block = BLOCK.matcher(text);
        Due.due("README.md has a run of calls", block.find() ? 1 : 0, 1);
        String[] lines = block.group(1).split("\n");
        Due.due(lines[0], lines[0].equals("ClassRunner x = new ClassRunner();") ? 1 : 0, 1);
        for (int i = 1; i < lines.length; i++) {
            if (!lines[i].isEmpty()) {
                call(lines[i]);
            }
        }
        named(text);
        Due.end();
    }

    private static void call(String line) throws ReflectiveOperationException {
        Matcher parts = CALL.matcher(line);
        if (!parts.matches()) {
            Due.due("can be read: " + line, 0, 1);
            return;
        }
        long answer = answer(parts.group(2), parts.group(3));
        Due.due(line, answer, Long.parseLong(parts.group(4)));
        if (parts.group(1) != null) {
            names.put(parts.group(1), answer);
        }
    }

    private static long answer(String name, String given) throws ReflectiveOperationException {
        String[] words = given.isEmpty() ? new String[0] : given.split(", ");
        for (Method method : ClassRunner.class.getMethods()) {
            if (method.getDeclaringClass() == ClassRunner.class && method.getName().equals(name)) {
                Object[] numbers = new Object[words.length];
                for (int i = 0; i < words.length; i++) {
                    numbers[i] = number(words[i], method.getParameterTypes()[i]);
                }
                return ((Number) method.invoke(x, numbers)).longValue();
            }
        }
        throw new NoSuchMethodException(name);
    }

    private static Object number(String word, Class<?> type) {
        long number = names.containsKey(word) ? names.get(word) : Long.parseLong(word);
        if (type == long.class) {
            return number;
        }
        return (int) number;
    }

    private static void named(String text) {
        for (Method method : ClassRunner.class.getDeclaredMethods()) {
            if (Modifier.isPublic(method.getModifiers())) {
                Due.due("README.md has a row for " + method, row(method).matcher(text).find() ? 1 : 0, 1);
            }
        }
        for (Field field : ClassRunner.class.getFields()) {
            Due.due("README.md names " + field, text.contains("`" + field.getName() + "`") ? 1 : 0, 1);
        }
    }

    /** The start of a row of the table of calls, with as many parameters as the method has. */
    private static Pattern row(Method method) {
        String parameters = String.join(", ", Collections.nCopies(method.getParameterCount(), "\\w+"));
        return Pattern.compile("\\| `" + method.getName() + "\\(" + parameters + "\\)`");
    }
}
