import java.lang.reflect.Constructor;
import java.lang.reflect.Field;
import java.lang.reflect.Method;
import java.lang.reflect.Modifier;
import java.util.Set;
import java.util.TreeSet;

/** The public face is that of the document, and nothing else can be seen from outside. */
public final class FaceTest {
    private static final String ARGUMENT = " IllegalArgumentException";
    private static final Set<String> FACE = Set.of(
        "int rule int int" + ARGUMENT + " IllegalStateException",
        "int drop int NoSuchElementException",
        "long trees int int" + ARGUMENT,
        "long sized int int" + ARGUMENT,
        "int least int" + ARGUMENT,
        "int strings int" + ARGUMENT,
        "int ambiguous int" + ARGUMENT,
        "int from int" + ARGUMENT,
        "boolean begins int" + ARGUMENT,
        "int first int" + ARGUMENT,
        "int follow int" + ARGUMENT,
        "int look int" + ARGUMENT);

    public static void main(String[] args) {
        Check check = new Check();
        check.due("public and final", Modifier.PUBLIC | Modifier.FINAL, TreeCount.class.getModifiers());
        Set<String> seen = new TreeSet<>();
        for (Method method : TreeCount.class.getDeclaredMethods()) {
            if (!Modifier.isPrivate(method.getModifiers())) {
                seen.add(told(method));
                check.due(method + " public alone", Modifier.PUBLIC, method.getModifiers());
            }
        }
        check.due("the methods " + seen, true, FACE.equals(seen));
        for (Field field : TreeCount.class.getDeclaredFields()) {
            check.due(field + " private", true, Modifier.isPrivate(field.getModifiers()));
        }
        Constructor<?>[] constructors = TreeCount.class.getDeclaredConstructors();
        check.due("constructors", 1, constructors.length);
        check.due("its parameters", 0, constructors[0].getParameterCount());
        check.due("public", Modifier.PUBLIC, constructors[0].getModifiers());
        check.finish();
    }

    private static String told(Method method) {
        StringBuilder text = new StringBuilder(method.getReturnType().getSimpleName());
        text.append(' ').append(method.getName());
        for (Class<?> parameter : method.getParameterTypes()) {
            text.append(' ').append(parameter.getSimpleName());
        }
        for (Class<?> thrown : method.getExceptionTypes()) {
            text.append(' ').append(thrown.getSimpleName());
        }
        return text.toString();
    }
}
