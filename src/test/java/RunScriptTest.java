import java.io.IOException;
import java.nio.file.Files;
import java.nio.file.Path;
import java.util.List;

/**
 * The command of README.md that runs the tests, in small projects of one test each and one test under
 * ../shared/tests: it ends with 0 only if all are there and all pass, and it prints what they print.
 */
public final class RunScriptTest {
    private static final Checks CHECKS = new Checks();
    private static final String CLASS = "public final class PinHall { }";
    private static final String BROKEN_CLASS = "public final class PinHall {";
    private static final String PASSES = "public static void main(String[] args) { new PinHall(); }";
    private static final String PRINTED = "answered 2, due is 3";
    private static final String FAILS = "public static void main(String[] args) { new PinHall();"
            + " System.out.println(\"" + PRINTED + "\"); System.exit(1); }";

    public static void main(String[] args) throws Exception {
        List<String> commands = new Readme().commandsUnder("How to run its tests");
        CHECKS.due("README.md has one command that runs the tests", commands.size(), 1);
        CHECKS.due(".ci/run can be run by its name", Files.isExecutable(Path.of(".ci/run")), true);
        String command = commands.get(0);
        ends(command, "all pass", true, false, CLASS, PASSES, PASSES);
        ends(command, "a test of the project fails", false, true, CLASS, FAILS, PASSES);
        ends(command, "a test under ../shared/tests fails", false, true, CLASS, PASSES, FAILS);
        ends(command, "no test is under ../shared/tests", false, false, CLASS, PASSES, null);
        ends(command, "the class can't be compiled", false, false, BROKEN_CLASS, PASSES, PASSES);
        CHECKS.end();
    }

    private static void ends(String command, String when, boolean isWell, boolean isPrinted, String its, String own,
            String shared) throws IOException, InterruptedException {
        Path folder = Files.createTempDirectory("project");
        try {
            Path project = folder.resolve("main");
            Folders.write(project.resolve(".ci/run"), Files.readString(Path.of(".ci/run")));
            Folders.write(project.resolve("src/main/java/PinHall.java"), its);
            Folders.write(project.resolve("src/test/java/OwnTest.java"), "public final class OwnTest { " + own + " }");
            Folders.write(project.resolve("src/test/java/support/Help.java"), "final class Help { }");
            Files.createDirectories(folder.resolve("shared/tests"));
            if (shared != null) {
                Folders.write(folder.resolve("shared/tests/Runs.java"), "public final class Runs { " + shared + " }");
            }
            Process process = new ProcessBuilder(command.split(" ")).directory(project.toFile())
                    .redirectErrorStream(true).start();
            String printed = new String(process.getInputStream().readAllBytes());
            boolean gotWell = process.waitFor() == 0;
            CHECKS.due(when + ": the command ends with 0", gotWell, isWell);
            CHECKS.due(when + ": the answer that is not due is printed", printed.contains(PRINTED), isPrinted);
        } finally {
            Folders.remove(folder);
        }
    }
}
