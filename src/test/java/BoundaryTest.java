import java.io.IOException;
import java.lang.reflect.InvocationTargetException;
import java.lang.reflect.Method;
import java.nio.file.Files;
import java.nio.file.Path;
import java.util.ArrayList;
import java.util.Arrays;
import java.util.Comparator;
import java.util.LinkedHashMap;
import java.util.List;
import java.util.Map;

/**
 * Runs every test that is marked with a sentence of the document, and looks that the document has these
 * sentences, and no words, under Terms and the promises, that no test is of.
 */
final class BoundaryTest {
    private static final Path DOCUMENT = Path.of("../shared/DOC.md");
    private static final List<Class<?>> EDGES = List.of(TokenEdges.class, FaultEdges.class, PartingEdges.class,
        FigureEdges.class, TapeEdges.class, LookEdges.class, AskEdges.class, ActEdges.class, UndoEdges.class);

    public static void main(String[] args) throws IOException, IllegalAccessException {
        List<Sentence> sentences = new ArrayList<>();
        for (Class<?> edges : EDGES) {
            runAll(edges, sentences);
        }
        System.out.println(sentences.size() + " tests of sentences");
        if (Files.exists(DOCUMENT)) {
            compare(sectionsOf(Files.readString(DOCUMENT)), sentences);
        }
        Checks.finish();
    }

    private static void runAll(Class<?> edges, List<Sentence> sentences) throws IllegalAccessException {
        Method[] methods = edges.getDeclaredMethods();
        Arrays.sort(methods, Comparator.comparing(Method::getName));
        for (Method method : methods) {
            Sentence sentence = method.getAnnotation(Sentence.class);
            if (sentence != null) {
                sentences.add(sentence);
                run(method, sentence);
            }
        }
    }

    private static void run(Method test, Sentence sentence) throws IllegalAccessException {
        Checks.begin(test.getName() + ", of \"" + sentence.words() + "\": ");
        int before = Checks.asked();
        try {
            test.invoke(null);
        } catch (InvocationTargetException e) {
            Checks.complain("threw " + e.getCause());
        }
        if (Checks.asked() == before) {
            Checks.complain("asks nothing");
        }
        Checks.begin("");
    }

    /** The text under each heading, without fences, signatures and the numbers of its parts. */
    private static Map<String, String> sectionsOf(String document) {
        Map<String, String> sections = new LinkedHashMap<>();
        for (String section : document.split("(?m)^## ")) {
            int line = section.indexOf('\n');
            String body = section.substring(Math.max(line, 0)).replaceAll("(?m)^```.*$", "")
                .replaceAll("(?m)^`[^`]*`:", "").replaceAll("==== \\d\\.", "").replaceAll("\\s+", " ");
            sections.put(section.substring(0, Math.max(line, 0)), body);
        }
        return sections;
    }

    private static void compare(Map<String, String> sections, List<Sentence> sentences) {
        for (Map.Entry<String, String> section : sections.entrySet()) {
            StringBuilder left = new StringBuilder(section.getValue());
            for (Sentence sentence : sentences) {
                if (sentence.under().equals(section.getKey())) {
                    wipe(left, section.getValue(), sentence.words());
                }
            }
            boolean promised = section.getKey().equals("Terms") || section.getKey().startsWith("Promise ");
            if (promised && left.chars().anyMatch(Character::isLetterOrDigit)) {
                Checks.complain(section.getKey() + ": no test is of: " + left.toString().replaceAll("\\s+", " "));
            }
        }
        for (Sentence sentence : sentences) {
            if (!sections.containsKey(sentence.under())) {
                Checks.complain("the document has no heading " + sentence.under());
            }
        }
    }

    private static void wipe(StringBuilder left, String body, String words) {
        int at = body.indexOf(words);
        if (at < 0) {
            Checks.complain("the document does not say: " + words);
        } else {
            left.replace(at, at + words.length(), " ".repeat(words.length()));
        }
    }
}
