import java.io.IOException;
import java.lang.reflect.InvocationTargetException;
import java.lang.reflect.Method;
import java.lang.reflect.Modifier;
import java.nio.file.Files;
import java.nio.file.Path;
import java.util.List;
import java.util.regex.Matcher;
import java.util.regex.Pattern;

/**
 * The examples of README.md, call by call: a comment begins with what the call answers or throws,
 * and with neither if the call answers nothing.
 */
public final class ReadmeTests extends Checks {
    private static final int FEWEST_CALLS = 20;
    private static final Pattern CALL = Pattern.compile("heap\\.(\\w+)\\((.*)\\); *// (.*)");
    private static final Pattern ANSWER = Pattern.compile("(-?\\d+|true|false|\\w+Exception)(:.*)?");

    public static void main(String[] args) throws IOException, ReflectiveOperationException {
        List<String> lines = Files.readAllLines(Path.of("README.md"));
        LazyHeap heap = null;
        int calls = 0;
        boolean inExample = false;
        for (String line : lines) {
            if (line.startsWith("```")) {
                inExample = line.equals("```java");
            } else if (inExample && line.equals("LazyHeap heap = new LazyHeap();")) {
                heap = new LazyHeap();
            } else if (inExample) {
                checkCall(heap, line);
                calls++;
            }
        }
        sentence("README.md says how to use the class");
        due("an example with many calls", calls >= FEWEST_CALLS, true);
        for (Method m : LazyHeap.class.getDeclaredMethods()) {
            if (Modifier.isPublic(m.getModifiers())) {
                due("a row for " + m.getName(), hasRow(lines, m.getName()), true);
            }
        }
        end();
    }

    private static void checkCall(LazyHeap heap, String line) throws ReflectiveOperationException {
        sentence(line);
        Matcher call = CALL.matcher(line);
        due("a line that is a call and a comment", call.matches(), true);
        if (call.matches()) {
            Matcher answer = ANSWER.matcher(call.group(3));
            String want = answer.matches() ? answer.group(1) : "null";
            due("what it answers", answer(heap, call.group(1), call.group(2).split(", ")), want);
        }
    }

    private static String answer(LazyHeap heap, String name, String[] words) throws ReflectiveOperationException {
        for (Method m : LazyHeap.class.getDeclaredMethods()) {
            if (m.getName().equals(name) && m.getParameterCount() == words.length) {
                try {
                    return String.valueOf(m.invoke(heap, arguments(m.getParameterTypes(), words)));
                } catch (InvocationTargetException e) {
                    return e.getCause().getClass().getSimpleName();
                }
            }
        }
        return "no such method";
    }

    private static Object[] arguments(Class<?>[] types, String[] words) {
        Object[] arguments = new Object[words.length];
        for (int i = 0; i < words.length; i++) {
            if (types[i] == boolean.class) {
                arguments[i] = Boolean.valueOf(words[i]);
            } else {
                arguments[i] = Integer.valueOf(words[i]);
            }
        }
        return arguments;
    }

    private static boolean hasRow(List<String> lines, String name) {
        for (String line : lines) {
            if (line.startsWith("| `" + name + "(")) {
                return true;
            }
        }
        return false;
    }
}
