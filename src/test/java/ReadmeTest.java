import java.io.IOException;
import java.lang.reflect.Method;
import java.lang.reflect.Modifier;
import java.nio.file.Files;
import java.nio.file.Path;
import java.util.regex.Matcher;
import java.util.regex.Pattern;

/** README.md tells of the class as it is: its example is run, and each call of the face stands in it. */
public final class ReadmeTest {
    private static final Checks CHECKS = new Checks();
    /** .ci/run starts the tests in the project's own folder. */
    private static final Path README = Path.of("README.md");
    private static final Pattern EXAMPLE = Pattern.compile("```java\n(.*?)```", Pattern.DOTALL);
    private static final Pattern CALL = Pattern.compile("x\\.(\\w+)\\((.*?)\\);");
    private static final Pattern ANSWER = Pattern.compile("// (-?\\d+|true|false)\\b");
    private static final Pattern TEXT = Pattern.compile("//.*\"(.*)\"");

    public static void main(String[] args) {
        CHECKS.runAll(ReadmeTest.class);
    }

    static void theExampleAnswersWhatItSays() throws IOException, ReflectiveOperationException {
        Matcher example = EXAMPLE.matcher(Files.readString(README));
        CHECKS.due("README.md has an example", example.find(), true);
        BranchingText x = new BranchingText();
        for (String line : example.group(1).split("\n")) {
            dueLine(line, x);
        }
    }

    /** The note behind the calls of a line begins with the last one's answer, and may quote the text. */
    private static void dueLine(String line, BranchingText x) throws ReflectiveOperationException {
        String last = "";
        Matcher call = CALL.matcher(line);
        while (call.find()) {
            last = String.valueOf(called(x, call.group(1), call.group(2)));
        }
        Matcher answer = ANSWER.matcher(line);
        if (answer.find()) {
            CHECKS.dueSame(line, last, answer.group(1));
        }
        Matcher text = TEXT.matcher(line);
        if (text.find()) {
            CHECKS.dueText(line, x, text.group(1).replace("\\n", "\n"));
        }
    }

    private static Object called(BranchingText x, String name, String written) throws ReflectiveOperationException {
        String[] parts = written.isEmpty() ? new String[0] : written.split(", ");
        for (Method method : BranchingText.class.getDeclaredMethods()) {
            if (method.getName().equals(name) && method.getParameterCount() == parts.length) {
                Object[] values = new Object[parts.length];
                for (int i = 0; i < parts.length; i++) {
                    values[i] = valueOf(parts[i], method.getParameterTypes()[i]);
                }
                return method.invoke(x, values);
            }
        }
        throw new NoSuchMethodException(name);
    }

    private static Object valueOf(String written, Class<?> type) {
        if (type == char.class) {
            return written.equals("'\\n'") ? '\n' : written.charAt(1);
        }
        return type == boolean.class ? (Object) Boolean.valueOf(written) : (Object) Integer.valueOf(written);
    }

    static void eachCallIsTold() throws IOException {
        String readme = Files.readString(README);
        for (Method method : BranchingText.class.getDeclaredMethods()) {
            if (!Modifier.isPrivate(method.getModifiers())) {
                CHECKS.due("README.md tells of " + method.getName(), readme.contains("`" + method.getName() + "("), true);
            }
        }
    }

    static void eachTestIsTold() throws IOException {
        String readme = Files.readString(README);
        for (String file : Path.of("src/test/java").toFile().list()) {
            String name = file.replace(".java", "");
            if (name.endsWith("Test")) {
                CHECKS.due("README.md tells of " + name, readme.contains("`" + name + "`"), true);
            }
        }
    }
}
