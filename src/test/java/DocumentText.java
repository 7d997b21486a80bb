import java.io.IOException;
import java.nio.file.Files;
import java.nio.file.Path;
import java.util.ArrayList;
import java.util.LinkedHashMap;
import java.util.List;
import java.util.Map;
import java.util.regex.Pattern;

/** The document by its sections, from which the sentences that have a test are taken out. */
final class DocumentText {
    private static final Path DOCUMENT = Path.of("../shared/DOC.md");
    private static final Pattern LOOKED_AT = Pattern.compile("What it is|Terms|Promise \\d+");
    private static final Pattern BOUNDARY = Pattern.compile("\\d|Throws|at most|at least|At most|empty|full|several|nobody"
            + "|without|less than|or more|nothing|wraps|for good|as soon as|As long as|no such|there is no|at the end");

    private final Map<String, String> sections = new LinkedHashMap<>();

    DocumentText() throws IOException {
        for (String section : Files.readString(DOCUMENT).split("(?m)^## ")) {
            int end = section.indexOf('\n');
            String name = section.substring(0, end).split(":")[0].trim();
            if (LOOKED_AT.matcher(name).matches()) {
                // The numbers of a minute's steps bound nothing.
                sections.put(name, section.substring(end).replaceAll("(?m)^ +\\d\\. ", ""));
            }
        }
    }

    int sections() {
        return sections.size();
    }

    /** Returns whether the words stood there; each place is taken out once. */
    boolean takeOut(String section, String words) {
        String text = sections.getOrDefault(section, "");
        int start = text.indexOf(words);
        if (start < 0) {
            return false;
        }
        sections.put(section, text.substring(0, start) + "<tested>" + text.substring(start + words.length()));
        return true;
    }

    /** Returns the lines that name a boundary case still. */
    List<String> untested() {
        List<String> left = new ArrayList<>();
        for (Map.Entry<String, String> section : sections.entrySet()) {
            for (String line : section.getValue().split("\n")) {
                if (BOUNDARY.matcher(line).find()) {
                    left.add(section.getKey() + ": " + line);
                }
            }
        }
        return left;
    }
}
