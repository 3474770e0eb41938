import java.io.IOException;
import java.nio.file.Files;
import java.nio.file.Path;
import java.util.ArrayList;
import java.util.List;
import java.util.regex.Matcher;
import java.util.regex.Pattern;

/** README.md, in the parts that tests look at. Tests run from the folder in which it lies. */
final class Readme {
    private final String text;

    Readme() throws IOException {
        text = Files.readString(Path.of("README.md"));
    }

    /** The lines of all blocks of Java, one block after the other. */
    List<String> javaLines() {
        List<String> all = new ArrayList<>();
        for (String block : found("(?s)```java\n(.*?)```")) {
            all.addAll(List.of(block.split("\n")));
        }
        return all;
    }

    /** The lines that are set in under a heading: commands for a shell. */
    List<String> commandsUnder(String heading) {
        int from = text.indexOf("\n## " + heading + "\n");
        if (from < 0) {
            return List.of();
        }
        int to = text.indexOf("\n## ", from + 1);
        return found("(?m)^    (.*)$", to < 0 ? text.substring(from) : text.substring(from, to));
    }

    /** What stands between backticks and fits a pattern whole. */
    List<String> quoted(String pattern) {
        return found("`(" + pattern + ")`");
    }

    private List<String> found(String pattern) {
        return found(pattern, text);
    }

    private static List<String> found(String pattern, String where) {
        List<String> all = new ArrayList<>();
        Matcher matcher = Pattern.compile(pattern).matcher(where);
        while (matcher.find()) {
            all.add(matcher.group(1));
        }
        return all;
    }
}
