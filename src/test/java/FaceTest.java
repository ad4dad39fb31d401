import java.io.IOException;
import java.lang.reflect.Constructor;
import java.lang.reflect.Field;
import java.lang.reflect.Method;
import java.lang.reflect.Modifier;
import java.nio.file.Files;
import java.nio.file.Path;
import java.util.Arrays;
import java.util.Set;
import java.util.TreeSet;
import java.util.regex.Pattern;

/** The public face, and those rules of LANGUAGE.md that can be seen from outside; run from the project's root. */
public final class FaceTest {
    private static final Due due = new Due("FaceTest");
    private static final String[] METHODS = {
        "boolean beads(int, int, int, long)", "int stitch(int)", "boolean ring(int)",
        "boolean colour(int, int, int, int)", "boolean thread(int, int)", "int cell(int, int)", "int work(int)",
        "int worked(int)", "int picked(int, int)", "int order(int, int)", "int hang(int)", "int pull(int)",
        "int pulled(int, int)", "int woven(int, int)", "int best()", "int bought(int, int)", "int count(int)"};
    private static final String[] FORBIDDEN_WORDS = {"throw", "throws", "try", "catch", "finally", "synchronized",
        "assert", "System\\.out", "new Object", "\\w*Exact", "protected", "volatile", "transient", "native"};

    public static void main(String[] args) throws IOException {
        face();
        noOtherMember();
        nestedClasses();
        source();
        due.end();
    }

    private static void face() {
        due.is("public final class", BeadDesk.class.getModifiers(), Modifier.PUBLIC | Modifier.FINAL);
        Set<String> want = new TreeSet<>(Arrays.asList(METHODS));
        Set<String> got = new TreeSet<>();
        for (Method m : BeadDesk.class.getDeclaredMethods()) {
            if (Modifier.isPublic(m.getModifiers())) {
                String types = Arrays.toString(Arrays.stream(m.getParameterTypes()).map(Class::getName).toArray());
                got.add(m.getReturnType().getName() + " " + m.getName() + types.replace('[', '(').replace(']', ')'));
            }
        }
        due.is("public methods " + got, got.equals(want), true);
        due.is("constructors", BeadDesk.class.getDeclaredConstructors().length, 1);
        for (Constructor<?> c : BeadDesk.class.getDeclaredConstructors()) {
            due.is("constructor", c.getModifiers() == Modifier.PUBLIC && c.getParameterCount() == 0, true);
        }
    }

    private static void noOtherMember() {
        Set<String> publicNames = new TreeSet<>();
        for (Method m : BeadDesk.class.getDeclaredMethods()) {
            if (Modifier.isPublic(m.getModifiers())) {
                publicNames.add(m.getName());
            }
        }
        for (Method m : BeadDesk.class.getDeclaredMethods()) {
            if (!Modifier.isPublic(m.getModifiers())) {
                due.is(m.getName() + " is private", Modifier.isPrivate(m.getModifiers()), true);
                due.is(m.getName() + " has a name of its own", publicNames.contains(m.getName()), false);
            }
        }
        for (Field f : BeadDesk.class.getDeclaredFields()) {
            boolean isNone = f.getName().equals("NONE");
            due.is(f.getName() + " is private", Modifier.isPrivate(f.getModifiers()), !isNone);
            boolean isStatic = Modifier.isStatic(f.getModifiers());
            due.is(f.getName() + " is final if static", !isStatic || Modifier.isFinal(f.getModifiers()), true);
        }
    }

    private static void nestedClasses() {
        Class<?>[] nested = BeadDesk.class.getDeclaredClasses();
        due.is("at most twelve classes", nested.length < 12, true);
        for (Class<?> c : nested) {
            due.is(c.getName() + " is static", Modifier.isStatic(c.getModifiers()), true);
            due.is(c.getName() + " has at most twenty fields", c.getDeclaredFields().length <= 20, true);
        }
    }

    private static void source() throws IOException {
        String text = Files.readString(Path.of("src/main/java/BeadDesk.java"));
        due.is("signs 1 to 127", text.chars().allMatch(c -> c > 0 && c < 128), true);
        String code = text.replaceAll("(?s)/\\*.*?\\*/", "").replaceAll("//.*", "");
        for (String word : FORBIDDEN_WORDS) {
            due.is("the word " + word, Pattern.compile("\\b" + word + "\\b").matcher(code).find(), false);
        }
        due.is("no lambda", code.contains("->"), false);
        due.is("no method reference", code.contains("::"), false);
        due.is("no package", Pattern.compile("(?m)^package").matcher(code).find(), false);
        String otherImports = code.replace("import java.util.Arrays;", "");
        due.is("no import but Arrays", otherImports.contains("import "), false);
    }
}
