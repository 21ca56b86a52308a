import java.io.IOException;
import java.lang.reflect.InvocationTargetException;
import java.lang.reflect.Method;
import java.lang.reflect.Modifier;
import java.nio.file.Files;
import java.nio.file.Path;
import java.util.Set;
import java.util.TreeSet;
import java.util.regex.Matcher;
import java.util.regex.Pattern;

/** The lines of README.md's example, each with the answer that stands behind it. */
public final class ReadmeTest {
    private static final Due due = new Due();
    private static final Pattern CALL = Pattern.compile("desk\\.(\\w+)\\(([^)]*)\\);\\s*(?:// (.*))?");
    private static final Pattern ANSWER = Pattern.compile("(-?\\d+|true|false|throws \\w+)(:.*)?");

    public static void main(String[] args) throws IOException, IllegalAccessException {
        PackDesk desk = new PackDesk();
        Set<String> shown = new TreeSet<>();
        for (String line : Files.readAllLines(Path.of("README.md"))) {
            Matcher call = CALL.matcher(line);
            if (call.matches()) {
                shown.add(call.group(1));
                compare(desk, call);
            }
        }
        due.same("the calls that README.md shows", shown.toString(), face().toString());
        due.end();
    }

    private static void compare(PackDesk desk, Matcher call) throws IllegalAccessException {
        String got = answer(desk, named(call.group(1)), numbers(call.group(2)));
        Matcher answer = ANSWER.matcher(call.group(3) == null ? "" : call.group(3));
        due.same(call.group(), got, answer.matches() ? answer.group(1) : "null");
    }

    private static String answer(PackDesk desk, Method method, Object[] numbers) throws IllegalAccessException {
        try {
            return String.valueOf(method.invoke(desk, numbers));
        } catch (InvocationTargetException e) {
            return "throws " + e.getCause().getClass().getSimpleName();
        }
    }

    private static Method named(String name) {
        for (Method method : PackDesk.class.getDeclaredMethods()) {
            if (Modifier.isPublic(method.getModifiers()) && method.getName().equals(name)) {
                return method;
            }
        }
        throw new AssertionError("README.md shows a call that is none: " + name);
    }

    private static Object[] numbers(String text) {
        if (text.isEmpty()) {
            return new Object[0];
        }
        String[] words = text.split(", ");
        Object[] numbers = new Object[words.length];
        for (int i = 0; i < words.length; i++) {
            numbers[i] = Integer.decode(words[i]);
        }
        return numbers;
    }

    private static Set<String> face() {
        Set<String> names = new TreeSet<>();
        for (Method method : PackDesk.class.getDeclaredMethods()) {
            if (Modifier.isPublic(method.getModifiers())) {
                names.add(method.getName());
            }
        }
        return names;
    }
}
