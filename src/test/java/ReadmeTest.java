import java.io.IOException;
import java.lang.reflect.InvocationTargetException;
import java.lang.reflect.Method;
import java.nio.file.Files;
import java.nio.file.Path;
import java.util.NoSuchElementException;
import java.util.Set;
import java.util.TreeSet;
import java.util.regex.Matcher;
import java.util.regex.Pattern;

/** What README.md says of calls holds: each line of its example answers what stands behind it. */
public final class ReadmeTest {
    private static final Pattern CALL = Pattern.compile("bench\\.(\\w+)\\((.*?)\\);\\s+// (-?\\w+)(:.*)?");
    private static final Checks CHECKS = new Checks();

    public static void main(String[] args) throws IOException, ReflectiveOperationException {
        String readme = Files.readString(Path.of("README.md"));
        CHECKS.same("README.md says how to run the tests", readme.contains(".ci/run"), true);
        String example = between(readme, "```java\n", "```");
        Set<String> called = run(example);
        for (Method method : MeanderBench.class.getDeclaredMethods()) {
            if (java.lang.reflect.Modifier.isPublic(method.getModifiers())) {
                String name = method.getName();
                CHECKS.same("the example calls " + name, called.contains(name), true);
                CHECKS.same("a row tells of " + name, readme.contains("| `" + name + "("), true);
            }
        }
        CHECKS.finish();
    }

    private static String between(String text, String begin, String end) {
        int from = text.indexOf(begin) + begin.length();
        int to = text.indexOf(end, from);
        if (!text.contains(begin) || to < 0) {
            throw new IllegalStateException("README.md has no example");
        }
        return text.substring(from, to);
    }

    private static Set<String> run(String example) throws ReflectiveOperationException {
        MeanderBench bench = new MeanderBench();
        Set<String> called = new TreeSet<>();
        for (String line : example.split("\n")) {
            Matcher call = CALL.matcher(line);
            if (call.matches()) {
                called.add(call.group(1));
                String got = answer(bench, call.group(1), call.group(2));
                CHECKS.same(line + " (answered " + got + ")", got.equals(call.group(3)), true);
            } else {
                // A line that is not run could say anything.
                boolean other = line.isBlank() || line.startsWith("MeanderBench bench = new MeanderBench();");
                CHECKS.same("a call with its answer, or the new bench: " + line, other, true);
            }
        }
        return called;
    }

    private static String answer(MeanderBench bench, String name, String arguments) throws ReflectiveOperationException {
        String[] words = arguments.isEmpty() ? new String[0] : arguments.split(", ");
        for (Method method : MeanderBench.class.getDeclaredMethods()) {
            if (method.getName().equals(name) && method.getParameterCount() == words.length) {
                return answer(bench, method, words);
            }
        }
        return "no such method";
    }

    private static String answer(MeanderBench bench, Method method, String[] words) throws ReflectiveOperationException {
        Object[] values = new Object[words.length];
        for (int k = 0; k < words.length; k++) {
            boolean isNumber = method.getParameterTypes()[k] == int.class;
            values[k] = isNumber ? (Object) Integer.valueOf(words[k]) : Boolean.valueOf(words[k]);
        }
        try {
            return String.valueOf(method.invoke(bench, values));
        } catch (InvocationTargetException e) {
            return e.getCause() instanceof NoSuchElementException ? "NoSuchElementException" : "" + e.getCause();
        }
    }
}
