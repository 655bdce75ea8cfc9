import java.io.IOException;
import java.lang.reflect.Method;
import java.lang.reflect.Modifier;
import java.nio.file.Files;
import java.nio.file.Path;
import java.util.Set;
import java.util.TreeSet;
import java.util.regex.Matcher;
import java.util.regex.Pattern;

/** README.md says how to use the class: its calls have the answers that it tells, and each call stands there once. */
public final class ReadmeTest {
    private static final Path README = Path.of("README.md");
    private static final Pattern CALL = Pattern.compile("x\\.(\\w+)\\((.*?)\\);\\s+// (-?\\d+)\\b.*");
    private static final Pattern TEXT = Pattern.compile("tell\\(x, \"(.*)\"\\);\\s+// (-?\\d+)");

    public static void main(String[] args) throws IOException, ReflectiveOperationException {
        ThreadMoved x = new ThreadMoved();
        Set<String> shown = new TreeSet<>();
        for (String line : Files.readAllLines(README)) {
            Matcher text = TEXT.matcher(line);
            Matcher call = CALL.matcher(line);
            if (text.matches()) {
                Check.due(line, Check.tell(x, text.group(1)), Integer.parseInt(text.group(2)));
            } else if (call.matches()) {
                shown.add(call.group(1));
                Check.due(line, answer(x, call.group(1), call.group(2)), Integer.parseInt(call.group(3)));
            } else {
                Check.dueTrue("a call with its answer: " + line, !line.startsWith("x."));
            }
        }
        for (Method m : ThreadMoved.class.getDeclaredMethods()) {
            if (Modifier.isPublic(m.getModifiers())) {
                Check.dueTrue("README.md shows " + m.getName(), shown.contains(m.getName()));
            }
        }
        Check.finish();
    }

    private static int answer(ThreadMoved x, String name, String list) throws ReflectiveOperationException {
        String[] words = list.isEmpty() ? new String[0] : list.split(", ");
        for (Method m : ThreadMoved.class.getDeclaredMethods()) {
            if (m.getName().equals(name) && m.getParameterCount() == words.length) {
                Object[] values = new Object[words.length];
                for (int i = 0; i < words.length; i++) {
                    values[i] = value(m.getParameterTypes()[i], words[i]);
                }
                return (Integer) m.invoke(x, values);
            }
        }
        throw new NoSuchMethodException(name + "(" + list + ")");
    }

    private static Object value(Class<?> type, String word) {
        if (type == long.class) {
            return Long.decode(word.replace("L", ""));
        }
        return type == boolean.class ? (Object) Boolean.valueOf(word) : Integer.valueOf(word);
    }
}
