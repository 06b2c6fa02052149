import java.io.IOException;
import java.nio.file.Files;
import java.nio.file.Path;
import java.util.ArrayList;
import java.util.List;
import java.util.regex.Matcher;
import java.util.regex.Pattern;

/** The class has its face in the source as the document prints it: each name, in its order, under its heading. */
public final class PrintedFaceTest {
    private static final Pattern FACE = Pattern.compile("(?s)## The public face\\s+```java\n(.*?)```");
    private static final Pattern DECLARATION = Pattern.compile("(?m)^(?: {4})?public [^{;]*");
    private static final Pattern METHOD = Pattern.compile("(?m)^ {4}public \\w+ (\\w+)\\(");
    private static final Pattern HEADING = Pattern.compile("(?m)^Ahead of the calls (.*) the interface says: (.*)\\.$");
    private static final Pattern NAME = Pattern.compile("`(\\w+)`");

    public static void main(String[] args) throws IOException {
        String document = Files.readString(Path.of(System.getProperty("document", "../shared/DOC.md")));
        String source = Files.readString(Path.of("src/main/java/Gaugerhall.java"));
        Matcher face = FACE.matcher(document);
        Check.due("the document prints a face", 1, face.find() ? 1 : 0);
        Check.dueText("the face", lines(found(DECLARATION, face.group(1), 0)), lines(found(DECLARATION, source, 0)));
        headings(document, source);
        Check.end();
    }

    private static void headings(String document, String source) {
        Matcher heading = HEADING.matcher(document);
        int headings = 0;
        while (heading.find()) {
            headings++;
            String names = lines(found(NAME, heading.group(1), 1));
            Check.dueText("calls behind " + heading.group(2), names, lines(found(METHOD, behind(heading.group(2), source), 1)));
        }
        Check.due("headings", 4, headings);
    }

    /** What stands in the source behind a heading, up to the next one. */
    private static String behind(String heading, String source) {
        String[] parts = source.split(Pattern.quote("    // " + heading + "\n"), 2);
        return parts.length < 2 ? "" : parts[1].split("// ----", 2)[0];
    }

    /** A line that is broken in the source need not be broken in the document. */
    private static List<String> found(Pattern pattern, String text, int group) {
        List<String> found = new ArrayList<>();
        Matcher matcher = pattern.matcher(text);
        while (matcher.find()) {
            found.add(matcher.group(group).replaceAll("\\s+", " ").trim());
        }
        return found;
    }

    private static String lines(List<String> texts) {
        return String.join("\n", texts);
    }
}
