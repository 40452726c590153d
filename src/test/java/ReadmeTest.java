import java.io.IOException;
import java.lang.reflect.InvocationTargetException;
import java.lang.reflect.Method;
import java.nio.file.Files;
import java.nio.file.Path;
import java.util.regex.Matcher;
import java.util.regex.Pattern;

/** Each call that README.md shows answers what stands behind it there. */
final class ReadmeTest {
    private static final Pattern SHOWN = Pattern.compile(
            "    hall\\.(\\w+)\\(([^)]*)\\); +// (throws \\w+|true|false|-?\\d+).*");

    public static void main(String[] args) throws IOException, IllegalAccessException {
        Quipuhall hall = new Quipuhall();
        int calls = 0;
        for (String line : Files.readAllLines(Path.of("README.md"))) {
            Matcher shown = SHOWN.matcher(line);
            if (shown.matches()) {
                String answer = answer(hall, shown.group(1), shown.group(2));
                Check.holds(line.strip() + " answered " + answer, answer.equals(shown.group(3)));
                calls++;
            } else {
                Check.holds("a call that is not read: " + line, !line.startsWith("    hall."));
                hall = new Quipuhall();
            }
        }
        Check.holds("calls in README.md", calls > 0);
        Check.end();
    }

    private static String answer(Quipuhall hall, String name, String written)
            throws IllegalAccessException {
        Method method = methodOf(name);
        String[] parts = written.isEmpty() ? new String[0] : written.split(", ");
        Object[] values = new Object[parts.length];
        for (int i = 0; i < parts.length; i++) {
            boolean isSign = parts[i].charAt(0) == '\'';
            values[i] = isSign ? (Object) parts[i].charAt(1) : (Object) Integer.valueOf(parts[i]);
        }
        try {
            return String.valueOf(method.invoke(hall, values));
        } catch (InvocationTargetException thrown) {
            Check.holds("thrown by the class: " + name, Check.isOfItsOwn(thrown.getCause()));
            return "throws " + thrown.getCause().getClass().getSimpleName();
        }
    }

    private static Method methodOf(String name) {
        for (Method method : Quipuhall.class.getDeclaredMethods()) {
            if (method.getName().equals(name)) {
                return method;
            }
        }
        throw new IllegalStateException("README.md shows a call that there is not: " + name);
    }
}
