import java.lang.reflect.Constructor;
import java.lang.reflect.Field;
import java.lang.reflect.Method;
import java.lang.reflect.Modifier;
import java.util.Arrays;
import java.util.Set;
import java.util.TreeSet;

/** The public face, just as the document writes it. */
public final class FaceTest {
    private static final String BAD_ARGUMENT = "IllegalArgumentException";
    private static final String BAD_STATE = "IllegalStateException";
    private static final String BAD_INDEX = "IndexOutOfBoundsException";

    private static final Set<String> FACE = new TreeSet<>(Arrays.asList(
            "int code(int, int) " + BAD_ARGUMENT + " " + BAD_INDEX,
            "void clear()",
            "void states(int) " + BAD_ARGUMENT,
            "void rule(int, int, int, int, int) " + BAD_ARGUMENT,
            "boolean well()",
            "int height(int) " + BAD_STATE + " " + BAD_INDEX,
            "int enforce() " + BAD_STATE,
            "int enforced(int, boolean) " + BAD_STATE + " " + BAD_INDEX,
            "void start(int, int) " + BAD_STATE + " " + BAD_ARGUMENT,
            "int step(int) " + BAD_STATE + " " + BAD_ARGUMENT,
            "int look(int) " + BAD_ARGUMENT,
            "int act(int, boolean) " + BAD_INDEX,
            "int cell(int) " + BAD_INDEX));

    public static void main(String[] args) {
        classItself();
        methods();
        nothingElseShows();
        Checks.finish();
    }

    private static void classItself() {
        int modifiers = PolicyLoom.class.getModifiers();
        Checks.yes("public", Modifier.isPublic(modifiers));
        Checks.yes("final", Modifier.isFinal(modifiers));
        Constructor<?>[] constructors = PolicyLoom.class.getDeclaredConstructors();
        Checks.same("constructors", constructors.length, 1);
        Checks.yes("a public constructor", Modifier.isPublic(constructors[0].getModifiers()));
        Checks.same("its parameters", constructors[0].getParameterCount(), 0);
    }

    private static void methods() {
        Set<String> shown = new TreeSet<>();
        Set<String> names = new TreeSet<>();
        for (Method method : PolicyLoom.class.getDeclaredMethods()) {
            if (!Modifier.isPrivate(method.getModifiers())) {
                Checks.yes(method + " is public", Modifier.isPublic(method.getModifiers()));
                shown.add(written(method));
                names.add(method.getName());
            }
        }
        Checks.yes("the face is " + shown, shown.equals(FACE));
        for (Method method : PolicyLoom.class.getDeclaredMethods()) {
            if (Modifier.isPrivate(method.getModifiers())) {
                Checks.no(method + " bears a public name", names.contains(method.getName()));
            }
        }
    }

    private static String written(Method method) {
        StringBuilder text = new StringBuilder();
        text.append(method.getReturnType()).append(' ').append(method.getName());
        text.append(Arrays.toString(method.getParameterTypes()).replace('[', '(').replace(']', ')'));
        for (Class<?> thrown : method.getExceptionTypes()) {
            text.append(' ').append(thrown.getSimpleName());
        }
        return text.toString();
    }

    private static void nothingElseShows() {
        for (Field field : PolicyLoom.class.getDeclaredFields()) {
            Checks.yes(field + " is private", Modifier.isPrivate(field.getModifiers()));
        }
        for (Class<?> inside : PolicyLoom.class.getDeclaredClasses()) {
            int modifiers = inside.getModifiers();
            Checks.yes(inside + " is static", Modifier.isStatic(modifiers));
            Checks.no(inside + " is shown", Modifier.isPublic(modifiers) || Modifier.isProtected(modifiers));
            Checks.yes(inside + " has few fields", inside.getDeclaredFields().length <= 20);
        }
    }
}
