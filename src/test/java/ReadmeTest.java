import java.io.IOException;
import java.lang.reflect.Method;
import java.lang.reflect.Modifier;
import java.nio.file.Files;
import java.nio.file.Path;
import java.util.regex.Matcher;
import java.util.regex.Pattern;

/** README.md: each line of its example answers what stands behind it, and every call of the face is told of. */
public final class ReadmeTest {
    private static final Path README = Path.of("README.md");
    private static final String BEGIN = "```java\nPulseWheel wheel = new PulseWheel();\n";
    private static final String END = "```\n";
    private static final Pattern LINE = Pattern.compile("wheel\\.(\\w+)\\((.*)\\); +// (true|false|-?\\d+): .+");

    private ReadmeTest() {
    }

    public static void main(String[] args) throws IOException, ReflectiveOperationException {
        String readme = Files.readString(README);
        example(readme);
        everyCall(readme);
        Check.end();
    }

    private static void example(String readme) throws ReflectiveOperationException {
        int from = readme.indexOf(BEGIN);
        int to = from < 0 ? -1 : readme.indexOf(END, from + BEGIN.length());
        Check.due("there is an example", to > 0, true);
        if (to < 0) {
            return;
        }
        PulseWheel wheel = new PulseWheel();
        for (String line : readme.substring(from + BEGIN.length(), to).split("\n")) {
            Matcher found = LINE.matcher(line);
            boolean isCall = found.matches();
            Check.due("a call and its answer: " + line, isCall, true);
            if (isCall) {
                Check.due(line, number(answer(wheel, found.group(1), found.group(2))), number(found.group(3)));
            }
        }
    }

    private static Object answer(PulseWheel wheel, String name, String text) throws ReflectiveOperationException {
        String[] words = text.isEmpty() ? new String[0] : text.split(", ");
        Class<?>[] types = new Class<?>[words.length];
        Object[] values = new Object[words.length];
        for (int i = 0; i < words.length; i++) {
            types[i] = int.class;
            values[i] = Integer.decode(words[i]);
        }
        return PulseWheel.class.getMethod(name, types).invoke(wheel, values);
    }

    private static long number(Object answer) {
        String text = answer.toString();
        if (text.equals("true") || text.equals("false")) {
            return text.equals("true") ? 1 : 0;
        }
        return Long.parseLong(text);
    }

    private static void everyCall(String readme) {
        for (Method m : PulseWheel.class.getDeclaredMethods()) {
            if (Modifier.isPublic(m.getModifiers())) {
                Check.due("told of " + m.getName(), readme.contains("\n| `" + m.getName() + "("), true);
            }
        }
    }
}
