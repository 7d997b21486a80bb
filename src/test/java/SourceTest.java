import java.io.IOException;
import java.nio.file.Files;
import java.nio.file.Path;
import java.util.List;
import java.util.regex.Pattern;

/** What can be seen of LANGUAGE.md in the lines of the source; .ci/run starts it in the project's directory. */
public final class SourceTest {
    private static final Path SOURCE = Path.of("src/main/java/SmallerTalk.java");
    private static final int LONGEST_METHOD = 60;
    private static final Pattern OUTSIDE = Pattern.compile(
            "^package|^import|\\b(catch|finally|assert|synchronized|instanceof|System|Integer|Long|Object|float)\\b|->|::");
    private static final Pattern METHOD = Pattern.compile("^ {4}(?: {4})?[\\w\\[\\]]+(?: [\\w\\[\\]]+)*\\(.*\\{$");
    private static final Pattern MADE = Pattern.compile("new (?!Illegal|IndexOut)");

    private static final Checks CHECKS = new Checks();

    public static void main(String[] args) throws IOException {
        List<String> lines = Files.readAllLines(SOURCE);
        for (int number = 1; number <= lines.size(); number++) {
            lookAt(number, lines.get(number - 1));
        }
        lookAtMethods(lines);
        CHECKS.end();
    }

    private static void lookAt(int number, String line) {
        String code = line.trim().startsWith("//") || line.trim().startsWith("/*") ? "" : line;
        CHECKS.due("line " + number + " holds what the rules leave out", OUTSIDE.matcher(code).find(), false);
        CHECKS.due("line " + number + " holds signs 32 to 126 alone", line.chars().allMatch(c -> c >= 32 && c < 127), true);
    }

    private static void lookAtMethods(List<String> lines) {
        int methods = 0;
        for (int at = 0; at < lines.size(); at++) {
            if (METHOD.matcher(lines.get(at)).find()) {
                lookAtMethod(lines, at);
                methods++;
            }
        }
        CHECKS.due("methods are found", methods > 36, true);
    }

    private static void lookAtMethod(List<String> lines, int start) {
        String head = lines.get(start);
        String end = head.substring(0, head.length() - head.stripLeading().length()) + "}";
        boolean constructor = head.trim().matches("(?:public )?[A-Z]\\w*\\(\\) \\{");
        int at = start + 1;
        while (at < lines.size() && !lines.get(at).equals(end)) {
            // Objects made in calls would add up: 512 calls of each object share one room.
            boolean makes = MADE.matcher(lines.get(at)).find();
            CHECKS.due("line " + (at + 1) + " makes an object outside a constructor", makes && !constructor, false);
            at++;
        }
        CHECKS.due(head.trim() + " has at most 60 lines", at - start <= LONGEST_METHOD, true);
    }
}
