import java.io.IOException;
import java.net.URL;
import java.net.URLClassLoader;
import java.nio.file.Files;
import java.nio.file.Path;
import java.util.ArrayList;
import java.util.List;
import java.util.TreeSet;
import java.util.regex.Matcher;
import java.util.regex.Pattern;
import java.util.stream.Stream;
import javax.tools.ToolProvider;

/** What README.md says of using the class and of its tests is true as it is written there. */
public final class ReadmeTest {
    private static final Checks CHECKS = new Checks();
    private static final Path TESTS = Path.of("src/test/java");
    /** A line of Java whose comment begins with an answer or an exception, or has neither. */
    private static final Pattern LINE = Pattern.compile("(.*?);\\s*// (.*)");
    private static final Pattern ANSWER = Pattern.compile("(-?\\d+(?:\\.\\d+)?|true|false|'.'|throws \\w+)(?:[ :,].*)?");

    public static void main(String[] args) throws Exception {
        Readme readme = new Readme();
        use(readme.javaLines());
        tests(readme);
        rows(readme);
        CHECKS.end();
    }

    /** Compiles and runs the lines of Java as they stand, and compares the answers that stand behind them. */
    private static void use(List<String> lines) throws Exception {
        List<String> calls = new ArrayList<>();
        List<String> due = new ArrayList<>();
        StringBuilder body = new StringBuilder();
        for (String line : lines) {
            Matcher parts = LINE.matcher(line);
            Matcher answer = ANSWER.matcher(parts.matches() ? parts.group(2) : "");
            if (answer.matches()) {
                String call = parts.group(1).strip();
                calls.add(call);
                due.add(answer.group(1).replace("'", ""));
                body.append(kept(call)).append('\n');
            } else {
                body.append(line).append('\n');
            }
        }
        CHECKS.due("README.md has calls with answers", calls.size() > 20, true);
        List<?> got = answersOf(body.toString());
        CHECKS.due("how many calls are answered", got.size(), due.size());
        for (int i = 0; i < got.size(); i++) {
            CHECKS.due(calls.get(i), got.get(i), due.get(i));
        }
    }

    private static String kept(String call) {
        return "try { answers.add(String.valueOf(" + call + ")); } catch (RuntimeException e) {"
                + " answers.add(\"throws \" + e.getClass().getSimpleName()); }";
    }

    private static List<?> answersOf(String body) throws Exception {
        Path folder = Files.createTempDirectory("readme");
        try {
            Path source = folder.resolve("ReadmeUse.java");
            Files.writeString(source, "public final class ReadmeUse {\n"
                    + "public static java.util.List<String> answers() {\n"
                    + "java.util.List<String> answers = new java.util.ArrayList<>();\n"
                    + body + "return answers;\n}\n}\n");
            int outcome = ToolProvider.getSystemJavaCompiler().run(null, System.out, System.out, "-encoding", "UTF-8",
                    "-cp", System.getProperty("java.class.path"), "-d", folder.toString(), source.toString());
            CHECKS.due("compiling the Java of README.md", outcome, 0);
            if (outcome != 0) {
                return List.of();
            }
            try (URLClassLoader loader = new URLClassLoader(new URL[] {folder.toUri().toURL()})) {
                return (List<?>) loader.loadClass("ReadmeUse").getMethod("answers").invoke(null);
            }
        } finally {
            Folders.remove(folder);
        }
    }

    private static void tests(Readme readme) throws IOException {
        TreeSet<String> there = new TreeSet<>();
        try (Stream<Path> files = Files.list(TESTS)) {
            files.map(f -> f.getFileName().toString()).filter(n -> n.endsWith("Test.java"))
                    .forEach(n -> there.add(n.replace(".java", "")));
        }
        CHECKS.due("the tests that README.md names", new TreeSet<>(readme.quoted("\\w+Test")), there);
        for (String name : readme.quoted("support/\\w+")) {
            CHECKS.due("README.md names " + name, Files.exists(TESTS.resolve(name + ".java")), true);
        }
        for (String name : readme.quoted("(?:\\.\\./shared|src)/[\\w./]+")) {
            CHECKS.due("README.md names " + name, Files.exists(Path.of(name)), true);
        }
    }

    /** The rows that README.md shows are rows, and hold after one player and one game. */
    private static void rows(Readme readme) {
        List<String> rows = new ArrayList<>(List.of("players 1", "begin 0 0 = 0"));
        for (String row : readme.quoted("\"[^\"]*\"")) {
            rows.add(row.substring(1, row.length() - 1));
        }
        CHECKS.due("README.md shows rows", rows.size() > 3, true);
        new Runs(CHECKS).run("README.md", rows.toArray(new String[0]));
    }
}
