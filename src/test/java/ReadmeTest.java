import java.lang.reflect.Method;
import java.lang.reflect.Modifier;
import java.nio.file.Files;
import java.nio.file.Path;
import java.util.HashMap;
import java.util.Map;
import java.util.regex.Matcher;
import java.util.regex.Pattern;

/** README.md: every call of its examples answers what stands behind it, and every call of the face is told there. */
public final class ReadmeTest {
    private static final Pattern EXAMPLES = Pattern.compile("(?s)```java\n(.*?)```");
    private static final Pattern CALL = Pattern.compile("x\\.(\\w+)\\((.*?)\\); +// (-?\\d+)(:.*)?");

    public static void main(String[] args) throws Exception {
        String readme = Files.readString(Path.of("README.md"));
        Map<String, Method> face = face();
        int shown = 0;
        Matcher examples = EXAMPLES.matcher(readme);
        while (examples.find()) {
            shown += run(examples.group(1), face);
        }
        Due.holds("README.md shows calls", shown > 0);
        for (String name : face.keySet()) {
            Due.holds("README.md tells of " + name, readme.contains("`" + name + "("));
        }
        Due.end(ReadmeTest.class);
    }

    private static Map<String, Method> face() {
        Map<String, Method> face = new HashMap<>();
        for (Method m : MixedWords.class.getDeclaredMethods()) {
            if (Modifier.isPublic(m.getModifiers())) {
                face.put(m.getName(), m);
            }
        }
        return face;
    }

    private static int run(String example, Map<String, Method> face) throws Exception {
        MixedWords x = new MixedWords();
        int shown = 0;
        for (String line : example.split("\n")) {
            if (line.isBlank() || line.startsWith("MixedWords x = new MixedWords();")) {
                continue;
            }
            Matcher call = CALL.matcher(line);
            Due.holds("an example's line: " + line, call.matches() && face.containsKey(call.group(1)));
            if (call.matches() && face.containsKey(call.group(1))) {
                Object got = face.get(call.group(1)).invoke(x, arguments(face.get(call.group(1)), call.group(2)));
                Due.is("README.md: " + line, ((Number) got).longValue(), Long.parseLong(call.group(3)));
                shown++;
            }
        }
        return shown;
    }

    private static Object[] arguments(Method m, String written) {
        String[] parts = written.isEmpty() ? new String[0] : written.split(", ");
        Object[] values = new Object[parts.length];
        for (int i = 0; i < parts.length; i++) {
            long value = Long.decode(parts[i].replace("L", ""));
            if (m.getParameterTypes()[i] == int.class) {
                values[i] = (int) value;
            } else {
                values[i] = value;
            }
        }
        return values;
    }
}
