import java.io.IOException;
import java.lang.reflect.InvocationTargetException;
import java.lang.reflect.Method;
import java.lang.reflect.Modifier;
import java.nio.charset.StandardCharsets;
import java.nio.file.Files;
import java.nio.file.Path;
import java.util.HashSet;
import java.util.Set;
import java.util.regex.Matcher;
import java.util.regex.Pattern;

/** The calls that README.md shows, in their order: each has to answer what stands behind it. */
public final class ReadmeTest {
    private static final Pattern CALL = Pattern.compile(
            " {4}house\\.(\\w+)\\(([^)]*)\\); +// (\"[^\"]*\"|throws \\w+|[-\\w]+)(, .*)?");

    public static void main(String[] args) throws IOException {
        Twotalk house = new Twotalk();
        Set<String> shown = new HashSet<>();
        for (String line : Files.readAllLines(Path.of("README.md"), StandardCharsets.UTF_8)) {
            Matcher call = CALL.matcher(line);
            if (call.matches()) {
                shown.add(call.group(1));
                String due = call.group(3).replace("\"", "");
                Due.is(due, line.strip(), () -> answer(house, call.group(1), call.group(2)));
            } else {
                Due.is(false, "a call that can't be read: " + line, () -> line.startsWith("    house."));
            }
        }
        for (Method method : Twotalk.class.getDeclaredMethods()) {
            boolean isPublic = Modifier.isPublic(method.getModifiers());
            Due.is(isPublic, method.getName() + " is shown", () -> shown.contains(method.getName()));
        }
        Due.end();
    }

    private static String answer(Twotalk house, String name, String values) {
        String[] parts = values.isEmpty() ? new String[0] : values.split(", ");
        for (Method method : Twotalk.class.getDeclaredMethods()) {
            if (method.getName().equals(name) && method.getParameterCount() == parts.length) {
                return answer(house, method, parts);
            }
        }
        return "no such call";
    }

    private static String answer(Twotalk house, Method method, String[] parts) {
        Object[] values = new Object[parts.length];
        for (int i = 0; i < parts.length; i++) {
            boolean isBoolean = method.getParameterTypes()[i] == boolean.class;
            values[i] = isBoolean ? (Object) Boolean.valueOf(parts[i]) : (Object) Integer.valueOf(parts[i]);
        }
        try {
            return String.valueOf(method.invoke(house, values));
        } catch (InvocationTargetException e) {
            return "throws " + e.getCause().getClass().getSimpleName();
        } catch (IllegalAccessException e) {
            return e.toString();
        }
    }
}
