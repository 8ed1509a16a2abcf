import java.io.IOException;
import java.nio.file.Files;
import java.nio.file.Path;
import java.util.Arrays;
import java.util.List;
import java.util.Set;
import java.util.regex.Matcher;
import java.util.regex.Pattern;

/** The rules of LANGUAGE.md that the source itself shows; FaceTest has what the compiled class shows. */
public final class RulesTest {
    private static final Path SOURCE = Path.of("src", "main", "java", "MeanderBench.java");
    private static final Set<String> LIBRARY = Set.of("Math.abs", "Math.max", "Math.min", "Integer.compare");
    private static final Checks CHECKS = new Checks();

    public static void main(String[] args) throws IOException {
        String text = Files.readString(SOURCE);
        CHECKS.same("signs beyond 127", text.chars().filter(c -> c > 127).count(), 0);
        String code = withoutCommentsAndTexts(text);
        imports(code);
        for (String never : List.of("->", "::", "\\bfinally\\b", "\\bsynchronized\\b", "\\bassert\\b", "\\bstatic\\s*\\{",
                "\\bpackage\\b", "Exact\\b", "\\bgetMessage\\b", "\\bhashCode\\b", "\\bObject\\b", "\\bThread\\b")) {
            none("rule 2, 4, 5 or 6", never, code);
        }
        // This class has no need of any of these: the machine's own exceptions can't be caught without one.
        none("catching", "\\b(try|catch)\\b", code);
        none("casting and null", "\\bnull\\b|\\binstanceof\\b|\\((int|long|byte|short|char|[A-Z]\\w*)\\)\\s*\\w", code);
        none("doubles and floats", "\\b(double|float)\\b", code);
        none("endless loops", "\\bwhile\\b|for\\s*\\([^;]*;\\s*;", code);
        none("another exception", "throw\\b(?! new NoSuchElementException\\(\"\"\\);)", code);
        library(code);
        divisors(code);
        methods(code);
        classes();
        CHECKS.finish();
    }

    private static String withoutCommentsAndTexts(String text) {
        return text.replaceAll("\"[^\"\n]*\"", "\"\"").replaceAll("(?s)/\\*.*?\\*/", "").replaceAll("//[^\n]*", "");
    }

    private static void none(String rule, String pattern, String code) {
        Matcher found = Pattern.compile(pattern).matcher(code);
        String first = found.find() ? code.substring(found.start()).split("\n")[0] : "";
        CHECKS.same(rule + ": " + first, first.isEmpty(), true);
    }

    private static void imports(String code) {
        none("rule 4", "\\bimport (?!java\\.util\\.NoSuchElementException;)", code);
        none("rule 4", "(?<!import )\\bjava\\.", code);
    }

    private static void library(String code) {
        Matcher call = Pattern.compile("(?<!\\.)\\b([A-Z][a-z]\\w*\\.\\w+)").matcher(code);
        int calls = 0;
        while (call.find()) {
            calls++;
            CHECKS.same("rule 4: " + call.group(1), LIBRARY.contains(call.group(1)), true);
        }
        CHECKS.same("library calls are seen", calls > 0, true);
    }

    /** Every divisor is a number that is written out, or a constant: none of these is 0. */
    private static void divisors(String code) {
        Matcher divided = Pattern.compile("[/%]=?\\s*(\\S+)").matcher(code);
        int seen = 0;
        while (divided.find()) {
            seen++;
            boolean fixed = divided.group(1).matches("([1-9]\\d*|[A-Z][A-Z_]+)\\W*.*");
            CHECKS.same("rule 7: a divisor that is not fixed: " + divided.group(1), fixed, true);
        }
        CHECKS.same("divisions are seen", seen > 0, true);
        none("rule 7: a constant of 0", "static final int \\w+ = 0;", code);
    }

    private static void methods(String code) {
        Matcher method = Pattern.compile("(?m)^( +)[\\w\\[\\] ]+\\(([^)]*)\\)[\\w ]*\\{$").matcher(code);
        int seen = 0;
        while (method.find()) {
            if (method.group().trim().matches("(if|for|switch|while|else|return)\\b.*")) {
                continue;
            }
            seen++;
            String name = method.group().trim();
            int end = code.indexOf("\n" + method.group(1) + "}", method.end());
            long lines = code.substring(method.start(), Math.max(end, method.end())).lines().count() + 1;
            CHECKS.same("rule 11: at most 60 lines: " + name, end > 0 && lines <= 60, true);
            CHECKS.same("rule 11: at most 7 parameters: " + name, method.group(2).split(",").length <= 7, true);
        }
        CHECKS.same("methods are seen: " + seen, seen >= 60, true);
    }

    private static void classes() {
        Class<?>[] inside = MeanderBench.class.getDeclaredClasses();
        CHECKS.same("rule 11: at most 12 classes", inside.length + 1 <= 12, true);
        for (Class<?> one : inside) {
            fields(one);
            CHECKS.same("no class within " + one, one.getDeclaredClasses().length, 0);
        }
        fields(MeanderBench.class);
    }

    private static void fields(Class<?> one) {
        long own = Arrays.stream(one.getDeclaredFields())
                .filter(field -> !java.lang.reflect.Modifier.isStatic(field.getModifiers())).count();
        CHECKS.same("rule 11: at most 20 fields: " + one, own <= 20, true);
    }
}
