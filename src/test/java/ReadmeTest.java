import java.io.IOException;
import java.lang.reflect.Method;
import java.nio.charset.StandardCharsets;
import java.nio.file.Files;
import java.nio.file.Path;
import java.util.List;
import java.util.regex.Matcher;
import java.util.regex.Pattern;

/** Runs the example of README.md: behind each call stands what it answers. */
public final class ReadmeTest {
    private static final Pattern TEXT = Pattern.compile("for \\(char c : \"(.*)\"\\.toCharArray\\(\\)\\) \\{");
    private static final Pattern CALL = Pattern.compile("x\\.(\\w+)\\((.*)\\); +// (-?\\d+)\\b.*");
    /** The lines around the text; what they do is done where the text is read. */
    private static final List<String> FRAME = List.of("SideStep x = new SideStep();", "x.write(c);", "}");

    private static final Due due = new Due();
    private static final SideStep x = new SideStep();
    private static int calls;

    public static void main(String[] args) throws IOException, ReflectiveOperationException {
        boolean inside = false;
        for (String line : Files.readAllLines(Path.of("README.md"), StandardCharsets.UTF_8)) {
            if (line.startsWith("```")) {
                inside = line.equals("```java");
            } else if (inside) {
                perform(line.trim());
            }
        }
        due.isTrue("the example has calls", calls > 0);
        due.end();
    }

    private static void perform(String line) throws ReflectiveOperationException {
        Matcher text = TEXT.matcher(line);
        Matcher call = CALL.matcher(line);
        if (text.matches()) {
            Due.write(x, text.group(1));
        } else if (call.matches()) {
            calls++;
            due.is(line, answer(call.group(1), call.group(2)), Long.parseLong(call.group(3)));
        } else {
            due.isTrue("README.md has a line that is not understood: " + line, FRAME.contains(line));
        }
    }

    private static long answer(String name, String written) throws ReflectiveOperationException {
        String[] words = written.isEmpty() ? new String[0] : written.split(", ");
        for (Method method : SideStep.class.getMethods()) {
            if (method.getName().equals(name) && method.getParameterCount() == words.length) {
                return ((Number) method.invoke(x, values(words, method.getParameterTypes()))).longValue();
            }
        }
        throw new NoSuchMethodException(name + "(" + written + ")");
    }

    private static Object[] values(String[] words, Class<?>[] types) {
        Object[] values = new Object[words.length];
        for (int i = 0; i < words.length; i++) {
            String word = words[i].equals("SideStep.NONE") ? Integer.toString(SideStep.NONE) : words[i];
            if (types[i] == boolean.class) {
                values[i] = Boolean.valueOf(word);
            } else if (types[i] == long.class) {
                values[i] = Long.valueOf(word);
            } else {
                values[i] = Integer.valueOf(word);
            }
        }
        return values;
    }
}
