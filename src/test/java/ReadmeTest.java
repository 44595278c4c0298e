import java.io.IOException;
import java.lang.reflect.InvocationTargetException;
import java.lang.reflect.Method;
import java.lang.reflect.Modifier;
import java.nio.file.Files;
import java.nio.file.Path;
import java.util.List;
import java.util.regex.Matcher;
import java.util.regex.Pattern;

/** README.md: each call of its examples answers what stands behind it, and no call is left out. */
final class ReadmeTest {
    private static final String MADE = "LinkPair x = new LinkPair();";
    private static final Pattern ROW = Pattern.compile("x\\.(\\w+)\\((.*)\\); +// (-?\\d+): .+");

    public static void main(String[] args) throws IOException, ReflectiveOperationException {
        List<String> lines = Files.readAllLines(Path.of("README.md"));
        examplesAnswer(lines);
        everyCallIsTold(String.join("\n", lines));
        Due.finish();
    }

    private static void examplesAnswer(List<String> lines) throws ReflectiveOperationException {
        LinkPair x = null;
        boolean inside = false;
        int rows = 0;
        for (String line : lines) {
            if (line.startsWith("```")) {
                inside = line.equals("```java");
            } else if (inside && line.equals(MADE)) {
                x = new LinkPair();
            } else if (inside) {
                rowAnswers(x, line);
                rows++;
            }
        }
        Due.is("rows of examples are found", rows > 0 ? 1 : 0, 1);
    }

    private static void rowAnswers(LinkPair x, String line) throws ReflectiveOperationException {
        Matcher row = ROW.matcher(line);
        Due.same("the form of '" + line + "'", Boolean.toString(row.matches()), "true");
        if (row.matches()) {
            Due.same("README: " + line, answerOf(x, row.group(1), row.group(2).split(", ")), row.group(3));
        }
    }

    private static String answerOf(LinkPair x, String name, String[] words) throws ReflectiveOperationException {
        Method call = callNamed(name);
        Class<?>[] types = call.getParameterTypes();
        if (types.length != words.length) {
            return words.length + " arguments, not " + types.length;
        }
        Object[] values = new Object[words.length];
        for (int i = 0; i < words.length; i++) {
            values[i] = valueOf(types[i], words[i]);
        }
        try {
            return String.valueOf(call.invoke(x, values));
        } catch (InvocationTargetException e) {
            return "throws." + e.getCause().getClass().getSimpleName();
        }
    }

    private static Method callNamed(String name) throws NoSuchMethodException {
        for (Method call : LinkPair.class.getDeclaredMethods()) {
            if (Modifier.isPublic(call.getModifiers()) && call.getName().equals(name)) {
                return call;
            }
        }
        throw new NoSuchMethodException(name);
    }

    private static Object valueOf(Class<?> type, String word) {
        if (type == boolean.class) {
            return Boolean.valueOf(word);
        }
        if (type == long.class) {
            return Long.valueOf(word);
        }
        return Integer.valueOf(word);
    }

    private static void everyCallIsTold(String text) {
        for (Method call : LinkPair.class.getDeclaredMethods()) {
            if (Modifier.isPublic(call.getModifiers())) {
                boolean told = text.contains("| `" + call.getName() + "(");
                Due.same("a row of README.md for " + call.getName(), Boolean.toString(told), "true");
            }
        }
    }
}
