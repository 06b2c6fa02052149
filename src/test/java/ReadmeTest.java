import java.io.IOException;
import java.nio.file.DirectoryStream;
import java.nio.file.Files;
import java.nio.file.Path;
import java.util.regex.Matcher;
import java.util.regex.Pattern;

/** What README.md tells holds: its example prints what stands below it, and each test is named there. */
public final class ReadmeTest {
    public static void main(String[] args) throws IOException, InterruptedException {
        String readme = Files.readString(Path.of("README.md"));
        examplePrintsWhatIsTold(readme);
        eachTestIsNamed(readme);
        Check.end();
    }

    private static void examplePrintsWhatIsTold(String readme) throws IOException, InterruptedException {
        Path directory = Files.createTempDirectory("readme");
        Path example = Files.writeString(directory.resolve("Example.java"), block(readme, "java"));
        try {
            Check.dueText("the example", block(readme, "text"), printedBy(example));
        } finally {
            Files.delete(example);
            Files.delete(directory);
        }
    }

    private static String printedBy(Path example) throws IOException, InterruptedException {
        String java = Path.of(System.getProperty("java.home"), "bin", "java").toString();
        String classes = System.getProperty("java.class.path");
        Process process = new ProcessBuilder(java, "-cp", classes, example.toString()).redirectErrorStream(true).start();
        String printed = new String(process.getInputStream().readAllBytes());
        Check.due("exit code of the example", 0, process.waitFor());
        return printed;
    }

    private static void eachTestIsNamed(String readme) throws IOException {
        try (DirectoryStream<Path> files = Files.newDirectoryStream(Path.of("src/test/java"), "*{Test,Edges}.java")) {
            for (Path file : files) {
                String name = file.getFileName().toString().replace(".java", "");
                Check.due(name + " is named", 1, readme.contains("`" + name + "`") ? 1 : 0);
            }
        }
    }

    /** The only block of that kind. */
    private static String block(String readme, String kind) {
        Matcher block = Pattern.compile("(?s)\n```" + kind + "\n(.*?)```").matcher(readme);
        boolean isThere = block.find();
        String text = isThere ? block.group(1) : "";
        Check.due("blocks of " + kind, 1, isThere && !block.find() ? 1 : 0);
        return text;
    }
}
