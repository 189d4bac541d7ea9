import java.io.IOException;
import java.lang.reflect.Constructor;
import java.lang.reflect.Field;
import java.lang.reflect.Method;
import java.lang.reflect.Modifier;
import java.nio.file.Files;
import java.nio.file.Path;
import java.util.Arrays;
import java.util.List;
import java.util.TreeSet;
import java.util.regex.Pattern;

/** The public face, and those rules of LANGUAGE.md that a test can see. */
public final class FaceTest {
    private static final Checks CHECKS = new Checks("FaceTest");
    private static final List<String> METHODS = List.of(
        "int letter(int)", "int blank()", "int fault()", "int school()", "int about(int, int)",
        "int as(int, int)", "int seat(int)", "int swap(int, int)", "int ill(int, boolean)",
        "int knows(int, int, int)", "int lesson(int, boolean)", "int summer()", "int wipe(int, int)",
        "int order(int)", "int songs(int, int)", "int asks(int, int)", "int orders(int, int, int)",
        "int tell(int, int)", "int sick(int)", "int years(int, int, int)", "int image()",
        "int restore()", "int count(int)", "long digest()");
    private static final List<String> CONSTANTS = List.of("NONE", "UNKNOWN", "OUTSIDE", "STATE", "FULL");

    private FaceTest() {
    }

    public static void main(String[] args) throws IOException {
        theClass();
        theMethods();
        theFields();
        thePrivateNames();
        theSource();
        CHECKS.end();
    }

    private static void theClass() {
        int modifiers = SchoolRow.class.getModifiers();
        CHECKS.holds("the class is public and final",
                Modifier.isPublic(modifiers) && Modifier.isFinal(modifiers));
        Constructor<?>[] constructors = SchoolRow.class.getDeclaredConstructors();
        CHECKS.due("constructors", constructors.length, 1);
        CHECKS.holds("a public constructor without parameters", constructors.length == 1
                && Modifier.isPublic(constructors[0].getModifiers()) && constructors[0].getParameterCount() == 0);
        CHECKS.holds("some twelve classes at most", SchoolRow.class.getDeclaredClasses().length < 12);
    }

    private static void theMethods() {
        TreeSet<String> found = new TreeSet<>();
        for (Method method : SchoolRow.class.getDeclaredMethods()) {
            if (!Modifier.isPrivate(method.getModifiers())) {
                CHECKS.holds(method + " is public and of an object", method.getModifiers() == Modifier.PUBLIC);
                String parameters = Arrays.toString(method.getParameterTypes());
                found.add(method.getReturnType() + " " + method.getName()
                        + "(" + parameters.substring(1, parameters.length() - 1) + ")");
            }
        }
        CHECKS.holds("the methods of the face: " + found, found.equals(new TreeSet<>(METHODS)));
    }

    private static void theFields() {
        TreeSet<String> open = new TreeSet<>();
        for (Field field : SchoolRow.class.getDeclaredFields()) {
            int modifiers = field.getModifiers();
            if (!Modifier.isPrivate(modifiers)) {
                open.add(field.getName());
                CHECKS.holds(field + " is a public constant", Modifier.isPublic(modifiers)
                        && Modifier.isStatic(modifiers) && Modifier.isFinal(modifiers)
                        && field.getType() == int.class);
            }
            CHECKS.holds(field + " is final if static",
                    !Modifier.isStatic(modifiers) || Modifier.isFinal(modifiers));
        }
        CHECKS.holds("the constants of the face: " + open, open.equals(new TreeSet<>(CONSTANTS)));
    }

    private static void thePrivateNames() {
        for (Class<?> inner : SchoolRow.class.getDeclaredClasses()) {
            CHECKS.holds(inner + " is static", Modifier.isStatic(inner.getModifiers()));
            CHECKS.holds(inner + " is not public", !Modifier.isPublic(inner.getModifiers()));
            for (Method method : inner.getDeclaredMethods()) {
                notOfTheFace(method);
            }
        }
        for (Method method : SchoolRow.class.getDeclaredMethods()) {
            if (Modifier.isPrivate(method.getModifiers())) {
                notOfTheFace(method);
            }
        }
    }

    private static void notOfTheFace(Method method) {
        boolean ofTheFace = METHODS.stream().anyMatch(m -> m.contains(" " + method.getName() + "("));
        CHECKS.holds(method + " has a name of its own", !ofTheFace);
    }

    /** No call makes an object or throws: what the source must not hold. */
    private static void theSource() throws IOException {
        String source = Files.readString(Path.of("src/main/java/SchoolRow.java"));
        String code = source.replaceAll("(?s)/\\*.*?\\*/", "").replaceAll("//[^\n]*", "");
        for (String word : List.of("import", "package", "try", "catch", "finally", "throw", "synchronized",
                "assert", "System", "Thread", "Math", "double", "float", "var", "Override", "Object")) {
            CHECKS.holds("no '" + word + "' in the source",
                    !Pattern.compile("\\b" + word + "\\b").matcher(code).find());
        }
        CHECKS.holds("no lambda or method reference", !code.contains("->") && !code.contains("::"));
        CHECKS.holds("no sign above 127", source.chars().allMatch(sign -> sign < 128));
        // Rooms are made in constructors and initialisers alone, so all arrays stand in Cells.
        CHECKS.due("arrays that are made", code.split("new int\\[", -1).length - 1, 1);
        for (String method : code.split("\n    }\n")) {
            CHECKS.holds("a short method: " + method.lines().count() + " lines",
                    method.contains(" class ") || method.lines().count() <= 60);
        }
    }
}
