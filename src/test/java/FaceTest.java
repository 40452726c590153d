import java.io.IOException;
import java.lang.reflect.Constructor;
import java.lang.reflect.Field;
import java.lang.reflect.Method;
import java.lang.reflect.Modifier;
import java.nio.charset.StandardCharsets;
import java.nio.file.Files;
import java.nio.file.Path;
import java.util.ArrayList;
import java.util.Arrays;
import java.util.List;
import java.util.TreeSet;
import java.util.regex.Matcher;
import java.util.regex.Pattern;

/** The public face is the document's, and the file keeps to those rules that a look tells. */
final class FaceTest {
    public static void main(String[] args) throws IOException {
        face();
        sizes();
        language();
        Check.end();
    }

    private static void face() throws IOException {
        String document = Files.readString(Path.of("../shared/DOC.md"));
        int start = document.indexOf("public final class Quipuhall {");
        String block = document.substring(start, document.indexOf("```", start));
        TreeSet<String> due = new TreeSet<>();
        Matcher line = Pattern.compile(
                "    public (\\w+) (\\w+)\\(([^)]*)\\)(?: throws ([\\w, ]+))?;").matcher(block);
        while (line.find()) {
            String types = line.group(3).replaceAll("(\\w+) \\w+", "$1").replace(" ", "");
            String thrown = line.group(4) == null ? "" : line.group(4).replace(" ", "");
            due.add(line.group(1) + " " + line.group(2) + "(" + types + ") " + thrown);
        }
        TreeSet<String> found = new TreeSet<>();
        for (Method method : Quipuhall.class.getDeclaredMethods()) {
            if (!Modifier.isPrivate(method.getModifiers())) {
                found.add(method.getReturnType().getSimpleName() + " " + method.getName() + "("
                        + names(method.getParameterTypes()) + ") "
                        + names(method.getExceptionTypes()));
                Check.holds("public, not static: " + method.getName(),
                        method.getModifiers() == Modifier.PUBLIC);
            }
        }
        Check.holds("methods in the document", !due.isEmpty());
        Check.holds("the document's face " + due + "\nand this one " + found, due.equals(found));
        Check.holds("public and final",
                Quipuhall.class.getModifiers() == (Modifier.PUBLIC | Modifier.FINAL));
        Constructor<?>[] made = Quipuhall.class.getDeclaredConstructors();
        Check.holds("one constructor", made.length == 1 && made[0].getParameterCount() == 0
                && made[0].getModifiers() == Modifier.PUBLIC);
        for (Field field : Quipuhall.class.getDeclaredFields()) {
            Check.holds("private: " + field.getName(), Modifier.isPrivate(field.getModifiers()));
        }
        privateNames();
    }

    private static void privateNames() {
        List<String> names = Arrays.stream(Quipuhall.class.getMethods())
                .filter(method -> method.getDeclaringClass() == Quipuhall.class)
                .map(Method::getName).toList();
        for (Method method : Quipuhall.class.getDeclaredMethods()) {
            Check.holds("no private method bears a public name: " + method.getName(),
                    Modifier.isPublic(method.getModifiers())
                            || !names.contains(method.getName()));
        }
        for (Class<?> inside : Quipuhall.class.getDeclaredClasses()) {
            Check.holds("private or package-visible: " + inside.getName(),
                    !Modifier.isPublic(inside.getModifiers())
                            && !Modifier.isProtected(inside.getModifiers()));
            for (Method method : inside.getDeclaredMethods()) {
                Check.holds("no inner method bears a public name: " + method.getName(),
                        !names.contains(method.getName()));
            }
        }
    }

    private static String names(Class<?>[] types) {
        return String.join(",", Arrays.stream(types).map(Class::getSimpleName).toList());
    }

    private static void language() throws IOException {
        byte[] bytes = Files.readAllBytes(Path.of("src/main/java/Quipuhall.java"));
        for (byte sign : bytes) {
            Check.holds("signs 1 to 127", sign > 0);
        }
        String source = new String(bytes, StandardCharsets.US_ASCII)
                .replaceAll("(?s)/\\*.*?\\*/", "").replaceAll("//[^\n]*", "");
        String[] forbidden = {"->", "::", "\\btry\\b", "\\bcatch\\b", "\\bfinally\\b",
            "\\bsynchronized\\b", "\\bassert\\b", "\\bpackage\\b", "Exact\\(",
            "\\bSystem\\.(?!arraycopy)",
            "\\bThread\\b", "\\bvar\\b", "\\bObject\\b", "\\bMap\\b", "\\bString\\.format",
            "import (?!java\\.util\\.ArrayList;|java\\.util\\.NoSuchElementException;)"};
        for (String pattern : forbidden) {
            Matcher found = Pattern.compile(pattern).matcher(source);
            Check.holds("not in the language: " + pattern, !found.find());
        }
        Matcher thrown = Pattern.compile("throw\\b(?! new \\w+\\(\"[^\"]*\"\\);)(?!s\\b)")
                .matcher(source);
        Check.holds("only written texts are thrown", !thrown.find());
        lengths(source.replaceAll("\"[^\"\n]*\"", ""));
    }

    /** At most seven parameters, and some twelve classes of some twenty fields. */
    private static void sizes() {
        List<Class<?>> classes = new ArrayList<>(List.of(Quipuhall.class.getDeclaredClasses()));
        classes.add(Quipuhall.class);
        Check.holds("classes", classes.size() <= 12);
        for (Class<?> one : classes) {
            long fields = Arrays.stream(one.getDeclaredFields())
                    .filter(field -> !Modifier.isStatic(field.getModifiers())).count();
            Check.holds("fields of " + one.getName(), fields <= 20);
            for (Method method : one.getDeclaredMethods()) {
                Check.holds("parameters of " + method.getName(),
                        method.getParameterCount() <= 7);
            }
            for (Field field : one.getDeclaredFields()) {
                int modifiers = field.getModifiers();
                Check.holds("static and not final: " + field.getName(),
                        !Modifier.isStatic(modifiers) || Modifier.isFinal(modifiers));
            }
        }
    }

    /** No block but that of a class has more than some sixty lines. */
    private static void lengths(String source) {
        String[] lines = source.split("\n");
        int[] starts = new int[lines.length + 1];
        int depth = 0;
        for (int i = 0; i < lines.length; i++) {
            for (char sign : lines[i].toCharArray()) {
                if (sign == '{') {
                    starts[depth++] = i;
                } else if (sign == '}') {
                    int start = starts[--depth];
                    Check.holds("lines from " + lines[start].strip(),
                            i - start <= 60 || lines[start].contains(" class "));
                }
            }
        }
        Check.holds("braces in pairs", depth == 0);
    }
}
