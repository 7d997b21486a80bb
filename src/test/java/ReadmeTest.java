import java.io.IOException;
import java.lang.reflect.InvocationTargetException;
import java.lang.reflect.Method;
import java.lang.reflect.Modifier;
import java.nio.file.Files;
import java.nio.file.Path;
import java.util.Set;
import java.util.TreeSet;
import java.util.regex.Matcher;
import java.util.regex.Pattern;
import java.util.stream.Collectors;
import java.util.stream.Stream;

/** README.md tells what is: its example answers as it says, its rows are the calls of the class, its tests are here. */
public final class ReadmeTest {
    private static final Path README = Path.of("README.md");
    private static final Path TESTS = Path.of("src/test/java");
    private static final Pattern EXAMPLE = Pattern.compile("```java\n(.*?)```", Pattern.DOTALL);
    private static final Pattern CALL = Pattern.compile("talk\\.(\\w+)\\(([-\\d, ]*)\\); +// ([-.\\w]+)(?:[:;] .*)?");
    private static final Pattern ROW = Pattern.compile("(?m)^\\| `(\\w+)\\(([\\w, ]*)\\)` \\|[^|\n]+\\|([^|\n]*)\\|$");
    private static final Pattern EXCEPTION = Pattern.compile("`(\\w+Exception)`");
    private static final Pattern TEST = Pattern.compile("- `(\\w+Test)`: .*");

    private static final Checks CHECKS = new Checks();

    public static void main(String[] args) throws IOException, IllegalAccessException {
        String readme = Files.readString(README);
        example(readme);
        rows(readme);
        tests(readme);
        CHECKS.end();
    }

    private static void example(String readme) throws IllegalAccessException {
        Matcher block = EXAMPLE.matcher(readme);
        CHECKS.due("README.md has an example", block.find(), true);
        String[] lines = block.group(1).split("\n");
        CHECKS.due("its first line", lines[0], "SmallerTalk talk = new SmallerTalk();");
        SmallerTalk talk = new SmallerTalk();
        for (int at = 1; at < lines.length; at++) {
            Matcher call = CALL.matcher(lines[at]);
            boolean read = call.matches();
            CHECKS.due(lines[at] + " is a call with an answer", read, true);
            if (read) {
                CHECKS.due(lines[at], answer(talk, call.group(1), numbers(call.group(2))), call.group(3));
            }
        }
    }

    private static Object[] numbers(String listed) {
        return Stream.of(listed.split(", ")).filter(number -> !number.isEmpty()).map(Integer::valueOf).toArray();
    }

    private static String answer(SmallerTalk talk, String name, Object[] arguments) throws IllegalAccessException {
        for (Method method : SmallerTalk.class.getMethods()) {
            if (method.getName().equals(name) && method.getParameterCount() == arguments.length) {
                try {
                    return method.invoke(talk, arguments).toString();
                } catch (InvocationTargetException e) {
                    return e.getCause().getClass().getSimpleName();
                }
            }
        }
        return "no such call";
    }

    private static void rows(String readme) {
        Set<String> got = new TreeSet<>();
        int rows = 0;
        Matcher row = ROW.matcher(readme);
        while (row.find()) {
            String exceptions = EXCEPTION.matcher(row.group(3)).results().map(found -> found.group(1))
                    .collect(Collectors.joining(", "));
            got.add(row.group(1) + " of " + numbersIn(row.group(2)) + " throws " + exceptions);
            rows++;
        }
        Set<String> want = new TreeSet<>();
        for (Method method : SmallerTalk.class.getDeclaredMethods()) {
            if (Modifier.isPublic(method.getModifiers())) {
                String exceptions = Stream.of(method.getExceptionTypes()).map(Class::getSimpleName)
                        .collect(Collectors.joining(", "));
                want.add(method.getName() + " of " + method.getParameterCount() + " throws " + exceptions);
            }
        }
        CHECKS.due("the calls in README.md", got.toString(), want.toString());
        CHECKS.due("each call has one row", rows, want.size());
    }

    private static int numbersIn(String parameters) {
        return parameters.isEmpty() ? 0 : parameters.split(", ").length;
    }

    private static void tests(String readme) throws IOException {
        Set<String> got = new TreeSet<>();
        Matcher line = TEST.matcher(readme);
        while (line.find()) {
            got.add(line.group(1));
        }
        Set<String> want = new TreeSet<>();
        try (Stream<Path> files = Files.list(TESTS)) {
            files.map(file -> file.getFileName().toString()).filter(name -> name.endsWith("Test.java"))
                    .forEach(name -> want.add(name.substring(0, name.length() - ".java".length())));
        }
        CHECKS.due("the tests in README.md", got.toString(), want.toString());
    }
}
