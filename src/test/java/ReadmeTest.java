import java.io.ByteArrayOutputStream;
import java.io.File;
import java.io.PrintStream;
import java.nio.charset.StandardCharsets;
import java.nio.file.Files;
import java.nio.file.Path;

/** What README.md says of the use of the class and of running its tests holds as it is written there. */
public final class ReadmeTest {
    private static final String LINE_END = "\n";

    private ReadmeTest() {
    }

    /** The text of the page's one block of a language, or nothing if there is none. */
    private static String block(String page, String language) {
        String opening = "```" + language + LINE_END;
        int start = page.indexOf(opening);
        int end = page.indexOf("```", start + opening.length());
        return start < 0 || end < 0 ? "" : page.substring(start + opening.length(), end);
    }

    private static String printed() {
        PrintStream screen = System.out;
        ByteArrayOutputStream kept = new ByteArrayOutputStream();
        System.setOut(new PrintStream(kept, true, StandardCharsets.US_ASCII));
        ReadmeExample.main(new String[0]);
        System.setOut(screen);
        return kept.toString(StandardCharsets.US_ASCII).replace(System.lineSeparator(), LINE_END);
    }

    private static void exampleHolds(String page) throws Exception {
        String example = Files.readString(Path.of("src/test/java/ReadmeExample.java"));
        Check.due("README's program is ReadmeExample.java", block(page, "java").equals(example), true);
        Check.due("README's program prints what README says", block(page, "text").equals(printed()), true);
    }

    /** The commands are run as they stand, up to the first that fails. */
    private static void commandsRun(String page) throws Exception {
        String commands = block(page, "sh");
        Check.due("README has commands", commands.isEmpty(), false);
        Process process = new ProcessBuilder("sh", "-e", "-c", commands).redirectErrorStream(true).start();
        String said = new String(process.getInputStream().readAllBytes(), StandardCharsets.UTF_8);
        int code = process.waitFor();
        Check.due("README's commands", code, 0);
        if (code != 0) {
            System.out.println(said);
        }
    }

    private static void testsAreNamed(String page) {
        File[] files = new File("src/test/java").listFiles();
        Check.due("tests are there", files != null && files.length > 0, true);
        for (File file : files == null ? new File[0] : files) {
            boolean test = file.getName().endsWith("Test.java");
            Check.due("README names " + file.getName(), !test || page.contains(file.getName()), true);
        }
        Check.due(".ci/run can be run", new File(".ci/run").canExecute(), true);
    }

    public static void main(String[] args) throws Exception {
        String page = Files.readString(Path.of("README.md"));
        exampleHolds(page);
        testsAreNamed(page);
        commandsRun(page);
        Check.finish();
    }
}
