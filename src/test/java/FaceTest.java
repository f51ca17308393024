import java.io.IOException;
import java.lang.reflect.Field;
import java.lang.reflect.Method;
import java.lang.reflect.Modifier;
import java.nio.file.Files;
import java.nio.file.Path;
import java.util.Arrays;
import java.util.List;
import java.util.Set;
import java.util.TreeSet;
import java.util.regex.Pattern;

/** The face is the document's and no more, and the text keeps to those rules that it can be searched for. */
public final class FaceTest {
    private static final Path SOURCE = Path.of("src/main/java/PulseWheel.java");
    private static final List<String> FACE = List.of("boolean hold(int, int)", "boolean turn(int, int)",
        "int tick(int, int, int)", "int feed(int, int, int, int, int)", "int play(int)", "int of(int, int)",
        "int origin(int)", "int event(int, int, int)", "int row(int)", "int period(int, int, int)",
        "int moved(int, int)", "int tooth(int, int)", "int wholes(int)", "int widest(int)", "int apart()",
        "boolean keep(int)", "boolean back(int)", "int about(int)");
    private static final List<String> FORBIDDEN = List.of("throw", "try", "catch", "synchronized", "assert", "static \\{",
        "->", "::", "double", "float", "package", "Exact\\(", "hashCode", "toString", "Random", "System\\.(?!arraycopy)");

    private FaceTest() {
    }

    public static void main(String[] args) throws IOException {
        face();
        nested();
        text();
        Check.end();
    }

    private static String signature(Method m) {
        String types = Arrays.toString(m.getParameterTypes());
        return m.getReturnType() + " " + m.getName() + "(" + types.substring(1, types.length() - 1) + ")";
    }

    private static void face() {
        Set<String> open = new TreeSet<>();
        for (Method m : PulseWheel.class.getDeclaredMethods()) {
            if (!Modifier.isPrivate(m.getModifiers())) {
                open.add(Modifier.toString(m.getModifiers()) + " " + signature(m));
            }
        }
        Set<String> wants = new TreeSet<>();
        for (String f : FACE) {
            wants.add("public " + f);
        }
        Check.due("face " + open, open.equals(wants), true);
        Check.due("public and final", PulseWheel.class.getModifiers(), Modifier.PUBLIC | Modifier.FINAL);
        Check.due("constructors", PulseWheel.class.getDeclaredConstructors().length, 1);
        Check.due("constructor without arguments", PulseWheel.class.getConstructors()[0].getParameterCount(), 0);
        for (Field f : PulseWheel.class.getDeclaredFields()) {
            boolean isConstant = f.getName().equals("NONE");
            Check.due("field " + f.getName(), Modifier.isPrivate(f.getModifiers()), !isConstant);
            Check.due("static state " + f.getName(), Modifier.isStatic(f.getModifiers())
                && !Modifier.isFinal(f.getModifiers()), false);
        }
    }

    private static void nested() {
        Set<String> faceNames = new TreeSet<>();
        for (String f : FACE) {
            faceNames.add(f.substring(f.indexOf(' ') + 1, f.indexOf('(')));
        }
        Class<?>[] inside = PulseWheel.class.getDeclaredClasses();
        Check.due("at most twelve classes", inside.length < 12, true);
        for (Class<?> c : inside) {
            Check.due(c + " is static", Modifier.isStatic(c.getModifiers()), true);
            Check.due(c + " has few fields", c.getDeclaredFields().length <= 20, true);
            for (Method m : c.getDeclaredMethods()) {
                Check.due(c + " has no " + m.getName(), faceNames.contains(m.getName()), false);
                Check.due(m + " takes few", m.getParameterCount() <= 7, true);
            }
        }
    }

    private static void text() throws IOException {
        String text = Files.readString(SOURCE);
        for (String word : FORBIDDEN) {
            String pattern = Character.isLetter(word.charAt(0)) ? "\\b" + word : word;
            Check.due("no " + word, Pattern.compile(pattern).matcher(text).find(), false);
        }
        Check.due("characters below 256", text.chars().allMatch(c -> c < 256), true);
    }
}
