import java.io.IOException;
import java.lang.reflect.Method;
import java.lang.reflect.Modifier;
import java.nio.file.Files;
import java.nio.file.Path;
import java.util.List;
import java.util.regex.Matcher;
import java.util.regex.Pattern;

/** README.md is read here, so that what it tells a user can't drift from what the class answers. */
public final class ReadmeTest {
    // loom.name(arguments);  // answer: why
    private static final Pattern CALL =
            Pattern.compile("loom\\.(\\w+)\\(([^)]*)\\);(?:\\s*// (-?\\d+|true|false)\\b.*)?.*");
    private static final String NO_ANSWER = "null";
    private static final int OPERATIONS = 13;

    public static void main(String[] args) throws IOException {
        List<String> lines = Files.readAllLines(Path.of("README.md"));
        example(lines);
        calls(lines);
        operations(lines);
        Checks.finish();
    }

    private static void example(List<String> lines) {
        PolicyLoom loom = new PolicyLoom();
        int answers = 0;
        int end = lines.indexOf("```");
        for (String line : lines.subList(lines.indexOf("```java") + 1, end)) {
            Matcher call = CALL.matcher(line);
            if (call.matches()) {
                String got = answer(loom, call.group(1), call.group(2));
                if (!got.equals(NO_ANSWER)) {
                    Checks.yes("README.md: " + line + ": that it answers " + got, got.equals(call.group(3)));
                    answers++;
                }
            }
        }
        Checks.yes("README.md: answers in the example", answers >= 10);
    }

    private static String answer(PolicyLoom loom, String name, String arguments) {
        String[] words = arguments.isEmpty() ? new String[0] : arguments.split(", ");
        Object[] given = new Object[words.length];
        for (int i = 0; i < words.length; i++) {
            given[i] = words[i].matches("true|false") ? (Object) Boolean.valueOf(words[i]) : Integer.valueOf(words[i]);
        }
        try {
            return String.valueOf(method(name).invoke(loom, given));
        } catch (ReflectiveOperationException e) {
            return e.toString();
        }
    }

    private static Method method(String name) throws NoSuchMethodException {
        for (Method method : PolicyLoom.class.getMethods()) {
            if (method.getName().equals(name)) {
                return method;
            }
        }
        throw new NoSuchMethodException(name);
    }

    /** Each method of the face stands in the table of calls, with each exception that it declares. */
    private static void calls(List<String> lines) {
        for (Method method : PolicyLoom.class.getDeclaredMethods()) {
            String row = row(lines, "| `" + method.getName() + "(");
            int told = row.split("Exception`", -1).length - 1;
            if (Modifier.isPublic(method.getModifiers())) {
                Checks.no("README.md: " + method.getName() + " is not told", row.isEmpty());
                Checks.same("README.md: exceptions of " + method.getName(), told, method.getExceptionTypes().length);
                for (Class<?> thrown : method.getExceptionTypes()) {
                    Checks.yes("README.md: " + method.getName() + " throws " + thrown.getSimpleName(),
                            row.contains("`" + thrown.getSimpleName() + "`"));
                }
            }
        }
    }

    private static void operations(List<String> lines) {
        for (int operation = 0; operation < OPERATIONS; operation++) {
            String[] columns = row(lines, "| " + operation + " |").split(" *\\| *");
            Checks.yes("README.md: operation " + operation + " is told", columns.length > 3);
            if (columns.length > 3) {
                takesAndLeaves(operation, columns[2], number(columns, 3), number(columns, 4));
            }
        }
    }

    private static void takesAndLeaves(int operation, String name, int takes, int leaves) {
        Checks.same("README.md: number of " + name, Checks.code(name)[0], operation);
        Checks.yes("README.md: " + name + " takes " + takes, behindNumbers(operation, takes).well());
        if (operation != Checks.END) {
            Checks.same("README.md: " + name + " leaves", behindNumbers(operation, takes).height(takes + 1), leaves);
        }
        if (takes > 0) {
            Checks.no("README.md: " + name + " takes less than " + takes, behindNumbers(operation, takes - 1).well());
        }
    }

    /** So many numbers, the operation, and the END that GO and IF go on at. */
    private static PolicyLoom behindNumbers(int operation, int numbers) {
        PolicyLoom loom = new PolicyLoom();
        for (int i = 0; i < numbers; i++) {
            loom.code(Checks.PUSH, 0);
        }
        boolean goesElsewhere = operation == Checks.GO || operation == Checks.IF;
        loom.code(operation, goesElsewhere ? numbers + 1 : 0);
        loom.code(Checks.END, 0);
        return loom;
    }

    private static int number(String[] columns, int i) {
        return i < columns.length && columns[i].matches("\\d+") ? Integer.parseInt(columns[i]) : 0;
    }

    private static String row(List<String> lines, String beginning) {
        for (String line : lines) {
            if (line.startsWith(beginning)) {
                return line;
            }
        }
        return "";
    }
}
