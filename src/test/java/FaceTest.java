import java.lang.reflect.Constructor;
import java.lang.reflect.Field;
import java.lang.reflect.Method;
import java.lang.reflect.Modifier;
import java.util.Set;
import java.util.TreeSet;

/** The public face, as the document tells it, and nothing beside it that is not private. */
public final class FaceTest {
    private static final String I = "IndexOutOfBoundsException";
    private static final String A = "IllegalArgumentException";
    private static final String S = "IllegalStateException";

    private static final String[] METHODS = {
        "int ratio(int, int) " + A + " " + S,
        "int sum(int, int) " + I + " " + S,
        "int difference(int, int) " + I + " " + S,
        "int product(int, int) " + I + " " + S,
        "int greater(int, int) " + I + " " + S,
        "int inverse(int) " + I + " " + S,
        "int root(int) " + I + " " + S,
        "int exp(int) " + I + " " + S,
        "int zero(int, int, int, int, int, int) " + A + " " + S,
        "long raw(int, int, boolean) " + I + " " + A + " " + S,
        "long told(int, int, boolean) " + I + " " + A + " " + S,
        "long instead(int, int, int, int, boolean) " + I + " " + A + " " + S,
        "int place(int, int) " + I + " " + A,
        "int compare(int, int, int) " + I + " " + A,
        "int decided(int, int) " + I,
        "int decimals(int, int) " + I + " " + A,
        "int decimal(int, int, int) " + I + " " + A + " " + S,
        "int quotient(int, int, int) " + I + " " + A + " " + S,
        "int next(int) " + I + " " + S,
        "int emitted(int) " + I,
        "long partial(int) " + I,
        "int restart(int) " + I,
        "int count()",
        "int needs(int) " + I,
    };

    public static void main(String[] args) {
        Class<?> face = Nestlimit.class;
        Check.same("the class", "public final class", Modifier.toString(face.getModifiers()) + " class");
        constructors(face);
        methods(face);
        fields(face);
        inside(face);
        Check.end("FaceTest");
    }

    private static void constructors(Class<?> face) {
        for (Constructor<?> made : face.getDeclaredConstructors()) {
            Check.same("a constructor", "public Nestlimit()", made.toString());
        }
    }

    private static void methods(Class<?> face) {
        Set<String> due = new TreeSet<>(Set.of(METHODS));
        Set<String> got = new TreeSet<>();
        Set<String> publicNames = new TreeSet<>();
        for (Method method : face.getDeclaredMethods()) {
            if (Modifier.isPublic(method.getModifiers())) {
                got.add(told(method));
                publicNames.add(method.getName());
            }
        }
        Check.same("the methods", due.toString(), got.toString());
        for (Method method : face.getDeclaredMethods()) {
            if (!Modifier.isPublic(method.getModifiers()) && !method.isSynthetic()) {
                Check.same(method + " is private", "true", "" + Modifier.isPrivate(method.getModifiers()));
                Check.same(method + " bears a name of its own", "false", "" + publicNames.contains(method.getName()));
            }
        }
    }

    private static String told(Method method) {
        StringBuilder text = new StringBuilder();
        text.append(method.getReturnType()).append(' ').append(method.getName()).append('(');
        String between = "";
        for (Class<?> type : method.getParameterTypes()) {
            text.append(between).append(type);
            between = ", ";
        }
        text.append(')');
        for (Class<?> type : method.getExceptionTypes()) {
            text.append(' ').append(type.getSimpleName());
        }
        return text.toString();
    }

    private static void fields(Class<?> face) {
        Set<String> got = new TreeSet<>();
        for (Field field : face.getDeclaredFields()) {
            int modifiers = field.getModifiers();
            if (!Modifier.isPrivate(modifiers)) {
                got.add(Modifier.toString(modifiers) + " " + field.getType() + " " + field.getName());
            }
            if (Modifier.isStatic(modifiers)) {
                Check.same(field + " is final", "true", "" + Modifier.isFinal(modifiers));
            }
        }
        String constant = "public static final int ";
        Check.same("the constants",
                new TreeSet<>(Set.of(constant + "NONE", constant + "LESS", constant + "WAITS", constant + "MORE")).toString(),
                got.toString());
    }

    private static void inside(Class<?> face) {
        for (Class<?> nested : face.getDeclaredClasses()) {
            Check.same(nested + " is static", "true", "" + Modifier.isStatic(nested.getModifiers()));
            Check.same(nested + " is not public", "false", "" + Modifier.isPublic(nested.getModifiers()));
        }
        Check.same("at most twelve classes", "true", "" + (face.getDeclaredClasses().length < 12));
    }
}
