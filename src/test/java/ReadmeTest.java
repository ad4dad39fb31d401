import java.io.IOException;
import java.lang.reflect.Method;
import java.nio.file.Files;
import java.nio.file.Path;
import java.util.Set;
import java.util.TreeSet;
import java.util.regex.Matcher;
import java.util.regex.Pattern;

/** README.md's example: each call answers what stands behind it, none is missing; run from the project's root. */
public final class ReadmeTest {
    private static final Due due = new Due("ReadmeTest");
    private static final Pattern CALL = Pattern.compile("(?m)^desk\\.(\\w+)\\(([^)]*)\\);\\s*// (-?\\w+)");

    public static void main(String[] args) throws IOException, ReflectiveOperationException {
        String readme = Files.readString(Path.of("README.md"));
        example(readme);
        saysHowToRunTheTests(readme);
        due.end();
    }

    private static void example(String readme) throws ReflectiveOperationException {
        Set<String> missing = new TreeSet<>(faceNames());
        BeadDesk desk = new BeadDesk();
        int calls = 0;
        Matcher call = CALL.matcher(readme);
        while (call.find()) {
            Method method = methodOf(call.group(1));
            Object answer = method.invoke(desk, argumentsOf(method, call.group(2)));
            due.is(call.group(), String.valueOf(answer), call.group(3));
            missing.remove(method.getName());
            calls++;
        }
        due.is("lines of the example that are calls", calls, readme.lines().filter(l -> l.startsWith("desk.")).count());
        due.is("calls that the example lacks: " + missing, missing.size(), 0);
        for (String name : faceNames()) {
            due.is("the table tells " + name, readme.contains("| `" + name + "("), true);
        }
    }

    private static void saysHowToRunTheTests(String readme) {
        due.is("README.md tells of .ci/run", readme.contains("`.ci/run`"), true);
    }

    private static Set<String> faceNames() {
        Set<String> names = new TreeSet<>();
        for (Method method : BeadDesk.class.getMethods()) {
            if (method.getDeclaringClass() == BeadDesk.class) {
                names.add(method.getName());
            }
        }
        return names;
    }

    private static Method methodOf(String name) throws NoSuchMethodException {
        for (Method method : BeadDesk.class.getDeclaredMethods()) {
            if (method.getName().equals(name)) {
                return method;
            }
        }
        throw new NoSuchMethodException("README.md calls " + name);
    }

    /** Numbers as Java reads them: a leading 0 makes the colours of beads octal, a digit for each bead. */
    private static Object[] argumentsOf(Method method, String text) {
        String[] parts = text.isEmpty() ? new String[0] : text.split(", ");
        Object[] arguments = new Object[parts.length];
        for (int i = 0; i < parts.length; i++) {
            long number = Long.decode(parts[i]);
            if (method.getParameterTypes()[i] == long.class) {
                arguments[i] = number;
            } else {
                arguments[i] = (int) number;
            }
        }
        return arguments;
    }
}
