import java.io.IOException;
import java.lang.reflect.InvocationTargetException;
import java.lang.reflect.Method;
import java.lang.reflect.Modifier;
import java.nio.file.Files;
import java.nio.file.Path;
import java.util.ArrayList;
import java.util.Arrays;
import java.util.Comparator;
import java.util.List;
import java.util.Map;
import java.util.TreeMap;

/**
 * Runs the tests that hold the document's sentences at their edges. Each names its sentence, which must stand in the
 * document; and each sentence of the terms, each range, each answer and each exception of a promise must have a test.
 */
public final class SentencesTest {
    private static final Class<?>[] EDGES = {TermsOfVesselsEdges.class, TermsOfDutyEdges.class,
        TermsOfMovementsEdges.class, VesselsEdges.class, DutyEdges.class, MovementsEdges.class, AskedEdges.class};

    public static void main(String[] args) throws IOException, ReflectiveOperationException {
        Path document = Path.of(System.getProperty("document", "../shared/DOC.md"));
        Map<String, List<String>> sections = sectionsOf(Files.readAllLines(document));
        List<Says> held = new ArrayList<>();
        for (Class<?> edges : EDGES) {
            for (Method test : testsOf(edges)) {
                held.add(test.getAnnotation(Says.class));
                run(test);
            }
        }
        Check.about("");
        held.forEach(says -> stands(says, sections));
        sections.forEach((section, sentences) -> sentences.forEach(sentence -> isHeld(section, sentence, held)));
        Check.end();
    }

    private static List<Method> testsOf(Class<?> edges) {
        List<Method> tests = new ArrayList<>();
        for (Method method : edges.getDeclaredMethods()) {
            if (method.isAnnotationPresent(Says.class)) {
                tests.add(method);
            } else {
                boolean isHelper = method.isSynthetic() || Modifier.isPrivate(method.getModifiers());
                Check.due(method + " names no sentence, and is no helper", 1, isHelper ? 1 : 0);
            }
        }
        tests.sort(Comparator.comparing(Method::getName));
        return tests;
    }

    private static void run(Method test) throws ReflectiveOperationException {
        Says says = test.getAnnotation(Says.class);
        Check.about(says.in() + ", '" + says.text() + "', " + test.getName());
        try {
            test.invoke(null);
        } catch (InvocationTargetException e) {
            Check.complain("threw " + e.getCause() + " at " + Arrays.toString(e.getCause().getStackTrace()));
        }
    }

    private static void stands(Says says, Map<String, List<String>> sections) {
        boolean doesStand = false;
        for (String sentence : sections.getOrDefault(says.in(), List.of())) {
            doesStand |= sentence.contains(says.text());
        }
        Check.due(says.in() + " says '" + says.text() + "'", 1, doesStand ? 1 : 0);
    }

    private static void isHeld(String section, String sentence, List<Says> held) {
        // What a call is called and does at all is held by FaceTest and by the tests of ordinary calls.
        boolean hasTest = sentence.startsWith("`int ") || sentence.startsWith("`void ");
        for (Says says : held) {
            hasTest |= says.in().equals(section) && sentence.contains(says.text());
        }
        Check.due(section + ", '" + sentence + "' has a test", 1, hasTest ? 1 : 0);
    }

    /** What it is, the terms and the promises, by what stands ahead of the colon in their headings. */
    private static Map<String, List<String>> sectionsOf(List<String> lines) {
        Map<String, List<String>> sections = new TreeMap<>();
        String section = "";
        for (String line : lines) {
            if (line.startsWith("## ")) {
                section = line.substring(3).split(":")[0];
            } else if (section.equals("What it is") || section.equals("Terms") || section.startsWith("Promise ")) {
                sections.computeIfAbsent(section, name -> new ArrayList<>()).addAll(sentencesOf(line));
            }
        }
        Check.due("the promises, the terms, and what it is", 23 + 2, sections.size());
        return sections;
    }

    /** Not the headings, and not where the interface has its own. */
    private static List<String> sentencesOf(String line) {
        boolean isTerm = line.startsWith("- ") || line.startsWith("Throws ");
        if (isTerm) {
            return List.of(line.startsWith("- ") ? line.substring(2) : line);
        }
        boolean isHeading = !line.endsWith(".") || line.startsWith("#") || line.startsWith("Ahead of the calls");
        return isHeading ? List.of() : Arrays.asList(line.split("(?<=\\.) "));
    }
}
