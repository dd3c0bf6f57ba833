import java.lang.reflect.Constructor;
import java.lang.reflect.Field;
import java.lang.reflect.Method;
import java.lang.reflect.Modifier;
import java.util.Arrays;
import java.util.Set;
import java.util.TreeSet;

/** The document's public face, and that the class shows nothing beside it (LANGUAGE.md, rule 1). */
public final class FaceTest {
    private static final Set<String> METHODS = Set.of(
        "void path(int)", "void octet(int)", "int file()", "int line(int, int)", "int sum()", "int check()",
        "int fault(int, int) throws java.util.NoSuchElementException", "int accept()", "int drop()",
        "int files(int)", "int about(int, int, int)", "int sign(int, int, int)",
        "int at(int, int, int) throws java.lang.ArrayIndexOutOfBoundsException", "int find(int)",
        "int same(int, int)", "int split(int, int)", "int piece(int, boolean)", "int missing()",
        "int joined(int)");

    public static void main(String[] args) {
        theClass();
        constants();
        constructors();
        methods();
        Due.end();
    }

    private static void yes(String what, boolean holds) {
        Due.same(what, holds ? 1 : 0, 1);
    }

    private static void theClass() {
        int modifiers = PackageRows2.class.getModifiers();
        yes("public class", Modifier.isPublic(modifiers));
        yes("final class", Modifier.isFinal(modifiers));
        yes("no class above", PackageRows2.class.getSuperclass() == Object.class);
        yes("no interface", PackageRows2.class.getInterfaces().length == 0);
        for (Class<?> inside : PackageRows2.class.getDeclaredClasses()) {
            int inner = inside.getModifiers();
            yes(inside + " is static", Modifier.isStatic(inner));
            yes(inside + " is hidden", !Modifier.isPublic(inner) && !Modifier.isProtected(inner));
        }
    }

    private static void constants() {
        Due.same("NONE", PackageRows2.NONE, -1);
        Due.same("RANGE", PackageRows2.RANGE, -2);
        Due.same("STATE", PackageRows2.STATE, -3);
        Due.same("FULL", PackageRows2.FULL, -4);
        Set<String> shown = new TreeSet<>();
        for (Field field : PackageRows2.class.getDeclaredFields()) {
            int modifiers = field.getModifiers();
            yes(field + " is no static state", !Modifier.isStatic(modifiers) || Modifier.isFinal(modifiers));
            if (!Modifier.isPrivate(modifiers)) {
                shown.add(Modifier.toString(modifiers) + " " + field.getType() + " " + field.getName());
            }
        }
        String front = "public static final int ";
        yes("constants " + shown,
            shown.equals(Set.of(front + "NONE", front + "RANGE", front + "STATE", front + "FULL")));
    }

    private static void constructors() {
        Constructor<?>[] all = PackageRows2.class.getDeclaredConstructors();
        yes("one constructor", all.length == 1);
        yes("a public one", Modifier.isPublic(all[0].getModifiers()));
        yes("without parameters", all[0].getParameterCount() == 0);
    }

    private static void methods() {
        Set<String> shown = new TreeSet<>();
        Set<String> shownNames = new TreeSet<>();
        Set<String> hiddenNames = new TreeSet<>();
        for (Method method : PackageRows2.class.getDeclaredMethods()) {
            if (Modifier.isPrivate(method.getModifiers())) {
                hiddenNames.add(method.getName());
            } else {
                yes(method + " is public", Modifier.isPublic(method.getModifiers()));
                yes(method + " is not static", !Modifier.isStatic(method.getModifiers()));
                shown.add(headOf(method));
                shownNames.add(method.getName());
            }
        }
        yes("methods " + shown, shown.equals(METHODS));
        hiddenNames.retainAll(shownNames);
        yes("private methods with names of the face " + hiddenNames, hiddenNames.isEmpty());
    }

    private static String headOf(Method method) {
        String parameters = Arrays.toString(method.getParameterTypes());
        StringBuilder head = new StringBuilder();
        head.append(method.getReturnType()).append(' ').append(method.getName());
        head.append('(').append(parameters, 1, parameters.length() - 1).append(')');
        for (Class<?> thrown : method.getExceptionTypes()) {
            head.append(" throws ").append(thrown.getName());
        }
        return head.toString();
    }
}
