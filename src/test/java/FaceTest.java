import java.lang.reflect.Constructor;
import java.lang.reflect.Field;
import java.lang.reflect.Method;
import java.lang.reflect.Modifier;
import java.util.Arrays;
import java.util.Set;
import java.util.TreeSet;

/** The public face, word for word, and nothing beside it (LANGUAGE.md, rules 1, 2, 5 and 11). */
public final class FaceTest {
    private static final String[] FACE = {
        "boolean unit(int)",
        "boolean units(int)",
        "int read()",
        "int cell() IllegalStateException",
        "int polygon(int, int) IndexOutOfBoundsException IllegalStateException",
        "boolean corner(int, long, long) IndexOutOfBoundsException IllegalStateException IllegalArgumentException",
        "boolean voltage(int, long) IndexOutOfBoundsException IllegalArgumentException",
        "int place(int, int, long, long, int) IndexOutOfBoundsException IllegalStateException IllegalArgumentException",
        "int run(int, int, boolean) IndexOutOfBoundsException UnsupportedOperationException",
        "long violation(int, int) IndexOutOfBoundsException",
        "int cellOf(int) IndexOutOfBoundsException",
        "boolean waive(int) IndexOutOfBoundsException IllegalStateException",
        "int changed(long, long, long, long) IllegalStateException IllegalArgumentException",
        "boolean same(int, int) IndexOutOfBoundsException UnsupportedOperationException",
        "int count(int) IndexOutOfBoundsException",
        "int occurrences(int) IndexOutOfBoundsException UnsupportedOperationException",
    };

    public static void main(String[] args) {
        Check check = new Check();
        check.due("NONE", RuleDeck.NONE, -1);
        check.due("the class", Modifier.toString(RuleDeck.class.getModifiers()), "public final");
        check.due("methods", openMethods().toString(), new TreeSet<>(Arrays.asList(FACE)).toString());
        check.due("constructors", Arrays.toString(openConstructors()), "[public RuleDeck(int)]");
        check.due("fields", openFields().toString(), "[NONE]");
        for (Class<?> inner : RuleDeck.class.getDeclaredClasses()) {
            checkInner(check, inner);
        }
        check.end();
    }

    private static Set<String> openMethods() {
        Set<String> found = new TreeSet<>();
        for (Method method : RuleDeck.class.getDeclaredMethods()) {
            if (!Modifier.isPrivate(method.getModifiers()) && !method.isSynthetic()) {
                found.add(describe(method));
            }
        }
        return found;
    }

    private static String describe(Method method) {
        StringBuilder text = new StringBuilder();
        text.append(method.getReturnType()).append(' ').append(method.getName()).append('(');
        for (int i = 0; i < method.getParameterCount(); i++) {
            text.append(i == 0 ? "" : ", ").append(method.getParameterTypes()[i]);
        }
        text.append(')');
        for (Class<?> thrown : method.getExceptionTypes()) {
            text.append(' ').append(thrown.getSimpleName());
        }
        return text.toString();
    }

    private static Constructor<?>[] openConstructors() {
        return RuleDeck.class.getDeclaredConstructors();
    }

    private static Set<String> openFields() {
        Set<String> found = new TreeSet<>();
        for (Field field : RuleDeck.class.getDeclaredFields()) {
            if (!Modifier.isPrivate(field.getModifiers()) && !field.isSynthetic()) {
                found.add(field.getName());
            }
        }
        return found;
    }

    private static void checkInner(Check check, Class<?> inner) {
        String name = inner.getSimpleName();
        int open = Modifier.PUBLIC | Modifier.PROTECTED;
        check.due(name + " is static", Modifier.isStatic(inner.getModifiers()), true);
        check.due(name + " is public or protected", inner.getModifiers() & open, 0);
        Set<String> face = new TreeSet<>();
        for (String line : FACE) {
            face.add(line.substring(line.indexOf(' ') + 1, line.indexOf('(')));
        }
        for (Method method : inner.getDeclaredMethods()) {
            check.due(name + "." + method.getName() + " bears a name of the face", face.contains(method.getName()), false);
            check.due(name + "." + method.getName() + " takes at most seven", method.getParameterCount() <= 7, true);
        }
        int fields = 0;
        for (Field field : inner.getDeclaredFields()) {
            boolean isStatic = Modifier.isStatic(field.getModifiers());
            check.due(name + "." + field.getName() + " is static state", isStatic && !Modifier.isFinal(field.getModifiers()), false);
            fields += isStatic ? 0 : 1;
        }
        check.due(name + " has some twenty fields at most", fields <= 20, true);
    }
}
