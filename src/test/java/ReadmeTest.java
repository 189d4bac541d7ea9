import java.io.IOException;
import java.lang.reflect.Method;
import java.lang.reflect.Modifier;
import java.nio.file.Files;
import java.nio.file.Path;
import java.util.Arrays;
import java.util.TreeSet;
import java.util.regex.Matcher;
import java.util.regex.Pattern;

/** What README.md shows of calls and answers: its lines of Java are read and made, one after the other. */
public final class ReadmeTest {
    private static final Checks CHECKS = new Checks("ReadmeTest");
    private static final Pattern BLOCK = Pattern.compile("(?s)```java\n(.*?)```");
    private static final String NEW_ROW = "SchoolRow row = new SchoolRow();";
    private static final String WRITING =
        "for \\(char letter : \"([^\"]*)\"\\.toCharArray\\(\\)\\) \\{\n    row\\.letter\\(letter\\);\n\\}";
    private static final Pattern STATEMENT = Pattern.compile(Pattern.quote(NEW_ROW) + "\n|" + WRITING
        + "\n|row\\.(\\w+)\\(([^()]*)\\); +// (-?\\d+|[A-Z]+): [^\n]+\n");

    private final TreeSet<String> shown = new TreeSet<>();
    private SchoolRow row = new SchoolRow();

    private ReadmeTest() {
    }

    public static void main(String[] args) throws IOException, ReflectiveOperationException {
        String readme = Files.readString(Path.of("README.md"));
        ReadmeTest test = new ReadmeTest();
        Matcher block = BLOCK.matcher(readme);
        while (block.find()) {
            test.make(block.group(1));
        }
        test.allCallsAreShown();
        allTestsAreNamed(readme);
        CHECKS.end();
    }

    private void make(String lines) throws ReflectiveOperationException {
        Matcher statement = STATEMENT.matcher(lines);
        int behind = 0;
        // A line of another form would be shown and not held, so each must follow right behind the last.
        while (behind < lines.length() && statement.find(behind) && statement.start() == behind) {
            if (statement.group(2) != null) {
                call(statement.group(2), statement.group(3), statement.group(4));
            } else if (statement.group(1) != null) {
                Rows.write(row, statement.group(1));
                shown.add("letter");
            } else {
                row = new SchoolRow();
            }
            behind = statement.end();
        }
        CHECKS.holds("read as calls: " + lines.substring(behind), behind == lines.length());
    }

    private void call(String name, String arguments, String answer) throws ReflectiveOperationException {
        Object[] values = arguments.isEmpty() ? new Object[0]
            : Arrays.stream(arguments.split(", ")).map(ReadmeTest::value).toArray();
        Method method = Arrays.stream(SchoolRow.class.getMethods())
            .filter(m -> m.getName().equals(name)).findFirst().orElseThrow();
        long want = Character.isUpperCase(answer.charAt(0)) ? SchoolRow.class.getField(answer).getInt(null)
            : Long.parseLong(answer);
        CHECKS.due(name + "(" + arguments + ")", ((Number) method.invoke(row, values)).longValue(), want);
        shown.add(name);
    }

    private static Object value(String argument) {
        boolean isTruth = argument.equals("true") || argument.equals("false");
        return isTruth ? (Object) Boolean.valueOf(argument) : (Object) Integer.valueOf(argument);
    }

    private void allCallsAreShown() {
        for (Method method : SchoolRow.class.getDeclaredMethods()) {
            boolean isCall = Modifier.isPublic(method.getModifiers());
            CHECKS.holds(method.getName() + "() is shown", !isCall || shown.contains(method.getName()));
        }
    }

    private static void allTestsAreNamed(String readme) throws IOException {
        try (var files = Files.list(Path.of("src/test/java"))) {
            files.map(file -> file.getFileName().toString())
                .filter(name -> name.endsWith("Test.java"))
                .map(name -> name.replace(".java", ""))
                .forEach(name -> CHECKS.holds(name + " is told of", readme.contains("| `" + name + "` |")));
        }
    }
}
