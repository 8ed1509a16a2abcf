import java.lang.reflect.Constructor;
import java.lang.reflect.Field;
import java.lang.reflect.Method;
import java.lang.reflect.Modifier;
import java.util.Arrays;
import java.util.Set;
import java.util.TreeSet;

/** The public face, and rules 1 and 5 of the language as far as the compiled class shows them. */
public final class FaceTest {
    private static final String[] FACE = {
        "int feed(int, int, int, int, int)", "boolean end(int)", "boolean line()", "boolean banks()",
        "boolean set(int, int, int, int, int, int)", "int go(int)", "int point(int, int) throws",
        "int crossings()", "int loop(int, int) throws", "int side(int, int)", "int plot(int, int)",
        "int owner(int, int) throws", "int mark(int, int, int)", "boolean marks(int)",
        "int met(int, int)", "int rate(int)", "int foretold(boolean)", "int count(int)",
    };
    private static final Checks CHECKS = new Checks();

    public static void main(String[] args) {
        Class<?> face = MeanderBench.class;
        CHECKS.same("the class is public and final",
                Modifier.isPublic(face.getModifiers()) && Modifier.isFinal(face.getModifiers()), true);
        CHECKS.same("NONE", MeanderBench.NONE, -1);
        Set<String> names = methods(face);
        constructors(face);
        fields(face);
        for (Class<?> inside : face.getDeclaredClasses()) {
            inside(inside, names);
        }
        CHECKS.finish();
    }

    private static Set<String> methods(Class<?> face) {
        Set<String> found = new TreeSet<>();
        Set<String> names = new TreeSet<>();
        for (Method method : face.getDeclaredMethods()) {
            if (Modifier.isPublic(method.getModifiers())) {
                found.add(described(method));
                names.add(method.getName());
            }
        }
        for (Method method : face.getDeclaredMethods()) {
            if (!Modifier.isPublic(method.getModifiers())) {
                CHECKS.same(method + " is private", Modifier.isPrivate(method.getModifiers()), true);
                CHECKS.same(method + " bears a public name", names.contains(method.getName()), false);
            }
        }
        CHECKS.same("the public methods " + found, found.equals(new TreeSet<>(Arrays.asList(FACE))), true);
        return names;
    }

    private static String described(Method method) {
        String parameters = Arrays.toString(method.getParameterTypes());
        return method.getReturnType() + " " + method.getName()
                + "(" + parameters.substring(1, parameters.length() - 1) + ")"
                + (method.getExceptionTypes().length == 0 ? "" : " throws");
    }

    private static void constructors(Class<?> face) {
        Constructor<?>[] all = face.getDeclaredConstructors();
        CHECKS.same("one constructor", all.length, 1);
        CHECKS.same("it is public", Modifier.isPublic(all[0].getModifiers()), true);
        CHECKS.same("it takes nothing", all[0].getParameterCount(), 0);
    }

    private static void fields(Class<?> face) {
        int open = 0;
        for (Field field : face.getDeclaredFields()) {
            open += Modifier.isPrivate(field.getModifiers()) ? 0 : 1;
            staticIsFinal(field);
        }
        CHECKS.same("fields that are not private (NONE alone)", open, 1);
    }

    private static void staticIsFinal(Field field) {
        int modifiers = field.getModifiers();
        CHECKS.same(field + ": static, not final", Modifier.isStatic(modifiers) && !Modifier.isFinal(modifiers), false);
    }

    private static void inside(Class<?> inside, Set<String> names) {
        CHECKS.same(inside + " is private and static",
                Modifier.isPrivate(inside.getModifiers()) && Modifier.isStatic(inside.getModifiers()), true);
        for (Field field : inside.getDeclaredFields()) {
            staticIsFinal(field);
        }
        for (Method method : inside.getDeclaredMethods()) {
            CHECKS.same(method + " bears a public name", names.contains(method.getName()), false);
        }
    }
}
