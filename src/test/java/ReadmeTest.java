import java.lang.reflect.Method;
import java.nio.file.Files;
import java.nio.file.Path;
import java.util.ArrayList;
import java.util.List;
import java.util.regex.Matcher;
import java.util.regex.Pattern;

/** README.md: its example answers as it says there, it tells of each method, and of each test. */
public final class ReadmeTest {
    private static final Path README = Path.of("README.md");
    private static final Path TESTS = Path.of("src/test/java");
    private static final Pattern CALL = Pattern.compile("(?m)^x\\.(\\w+)\\(([^)]*)\\); +// (-?\\d+)(?=[:,\\s])");

    public static void main(String[] args) throws Exception {
        Due due = new Due("ReadmeTest");
        String text = Files.readString(README);
        Matcher example = Pattern.compile("(?s)```java\n(.*?)```").matcher(text);
        due.is("an example", example.find() ? 1 : 0, 1);
        answersOf(due, example.group(1));
        for (Method method : PlugPins.class.getDeclaredMethods()) {
            if (method.getModifiers() == java.lang.reflect.Modifier.PUBLIC) {
                due.is("README.md tells of " + method.getName(), text.contains("`" + method.getName() + "(") ? 1 : 0, 1);
            }
        }
        try (var tests = Files.list(TESTS)) {
            for (Path test : tests.filter(t -> t.toString().endsWith("Test.java")).toList()) {
                String name = test.getFileName().toString().replace(".java", "");
                due.is("README.md tells of " + name, text.contains("`" + name + "`") ? 1 : 0, 1);
            }
        }
        due.end();
    }

    /** Each line of the example that starts with a call tells its answer. */
    private static void answersOf(Due due, String example) throws Exception {
        PlugPins x = new PlugPins();
        Matcher call = CALL.matcher(example);
        int calls = 0;
        while (call.find()) {
            calls++;
            due.is(call.group(), answerOf(x, call.group(1), call.group(2)), Long.parseLong(call.group(3)));
        }
        int lines = 0;
        for (String line : example.split("\n")) {
            lines += line.startsWith("x.") ? 1 : 0;
        }
        due.is("lines of the example with an answer", calls, lines);
    }

    private static int answerOf(PlugPins x, String name, String arguments) throws Exception {
        List<Object> given = new ArrayList<>();
        for (String argument : arguments.split(", ")) {
            if (argument.endsWith("L")) {
                given.add(Long.decode(argument.substring(0, argument.length() - 1)));
            } else if (!argument.isEmpty()) {
                given.add(Integer.decode(argument));
            }
        }
        for (Method method : PlugPins.class.getDeclaredMethods()) {
            if (method.getName().equals(name) && method.getParameterCount() == given.size()) {
                return (int) method.invoke(x, given.toArray());
            }
        }
        throw new IllegalArgumentException("README.md calls " + name + ", which is no method with so many arguments");
    }
}
