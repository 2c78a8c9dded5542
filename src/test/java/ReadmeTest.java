import java.io.IOException;
import java.lang.reflect.Method;
import java.lang.reflect.Modifier;
import java.nio.file.Files;
import java.nio.file.Path;
import java.util.List;
import java.util.Set;
import java.util.TreeSet;
import java.util.regex.Matcher;
import java.util.regex.Pattern;

/**
 * Makes the calls of the example in README.md and holds their answers against those that stand
 * behind them there. It is run from the directory that has README.md, as .ci/run does.
 */
public final class ReadmeTest {
    private static final Pattern CALL =
            Pattern.compile("x\\.(\\w+)\\((.*)\\);\\s+// (-?\\d+|true|false)\\b.*");
    private static final Due due = new Due();

    public static void main(String[] args) throws IOException, ReflectiveOperationException {
        DelegationClosure x = new DelegationClosure();
        Set<String> shown = new TreeSet<>();
        int calls = 0;
        for (String line : exampleIn(Files.readAllLines(Path.of("README.md")))) {
            if (!line.startsWith("x.")) {
                continue;
            }
            Matcher call = CALL.matcher(line);
            due.is("README.md: has an answer: " + line, call.matches(), true);
            if (call.matches()) {
                String answer = answerOf(x, call.group(1), call.group(2));
                due.is("README.md: " + line, answer, call.group(3));
                shown.add(call.group(1));
                calls++;
            }
        }
        due.is("README.md: shows every call", shown.equals(face()), true);
        due.is("README.md: no more than 512 calls", calls <= 512, true);
        due.end();
    }

    private static List<String> exampleIn(List<String> lines) {
        int start = lines.indexOf("```java");
        List<String> rest = lines.subList(start + 1, lines.size());
        return start < 0 ? List.of() : rest.subList(0, rest.indexOf("```"));
    }

    private static String answerOf(DelegationClosure x, String name, String written)
            throws ReflectiveOperationException {
        String[] parts = written.isEmpty() ? new String[0] : written.split(",");
        Object[] values = new Object[parts.length];
        for (int i = 0; i < parts.length; i++) {
            values[i] = valueOf(parts[i].strip());
        }
        return String.valueOf(methodOf(name).invoke(x, values));
    }

    private static Method methodOf(String name) throws NoSuchMethodException {
        for (Method method : DelegationClosure.class.getDeclaredMethods()) {
            if (method.getName().equals(name)) {
                return method;
            }
        }
        throw new NoSuchMethodException(name);
    }

    private static Set<String> face() {
        Set<String> names = new TreeSet<>();
        for (Method method : DelegationClosure.class.getDeclaredMethods()) {
            if (Modifier.isPublic(method.getModifiers())) {
                names.add(method.getName());
            }
        }
        return names;
    }

    /** The arguments that the example has: an int, a boolean, OWNER, a sum, a subject. */
    private static Object valueOf(String written) {
        switch (written) {
            case "true":
                return true;
            case "false":
                return false;
            case "DelegationClosure.OWNER":
                return DelegationClosure.OWNER;
            default:
                return sumOf(written);
        }
    }

    private static int sumOf(String written) {
        Matcher subject = Pattern.compile("(\\d+) \\+ 8 \\* \\((\\d+) \\+ (\\d+)\\)").matcher(written);
        if (subject.matches()) {
            int name = Integer.parseInt(subject.group(2)) + Integer.parseInt(subject.group(3));
            return Integer.parseInt(subject.group(1)) + 8 * name;
        }
        int sum = 0;
        for (String part : written.split(" \\+ ")) {
            sum += Integer.parseInt(part);
        }
        return sum;
    }

    private ReadmeTest() {
    }
}
