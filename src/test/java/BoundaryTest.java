import java.io.IOException;
import java.nio.file.Files;
import java.nio.file.Path;
import java.util.LinkedHashSet;
import java.util.Set;

/**
 * Each sentence of the document with the boundary cases that it names: too small, too large, empty, full, a
 * wrap-around, a refused call. Every answer that is wrong is told with the promise and the sentence that it breaks.
 */
public final class BoundaryTest {
    private static final Path DOCUMENT = Path.of("../shared/DOC.md");

    private BoundaryTest() {
    }

    public static void main(String[] args) throws IOException {
        Due due = new Due("BoundaryTest");
        MakingBoundaries.look(due);
        DividingBoundaries.look(due);
        ReadingBoundaries.look(due);
        TermsBoundaries.look(due);
        compareSentences(due);
        due.end();
    }

    /** No sentence without a test, and no test of a sentence that the document does not have. */
    private static void compareSentences(Due due) throws IOException {
        if (!Files.exists(DOCUMENT)) {
            System.out.println("BoundaryTest: " + DOCUMENT + " is not there, so its sentences are not compared");
            return;
        }
        Set<String> written = sentences(Files.readString(DOCUMENT));
        Set<String> tested = new LinkedHashSet<>(due.sentences());
        for (String sentence : written) {
            due.answer("a test of the sentence " + sentence, tested.remove(sentence), true);
        }
        due.answer("tests of sentences that are not written", tested, Set.of());
    }

    private static Set<String> sentences(String document) {
        Set<String> sentences = new LinkedHashSet<>();
        for (String part : document.split("(?m)^## ")) {
            String[] lines = part.split("\n");
            String heading = lines[0].trim();
            if (heading.equals("What it is") || heading.equals("Terms") || heading.startsWith("Promise ")) {
                for (int i = 1; i < lines.length; i++) {
                    // A promise begins with its signature, which is no sentence.
                    String text = lines[i].trim().replaceFirst("^`[^`]*`: ", "");
                    for (String sentence : text.split("(?<=\\.) (?=[A-Z])")) {
                        if (!sentence.isEmpty()) {
                            sentences.add(heading + " | " + sentence);
                        }
                    }
                }
            }
        }
        return sentences;
    }
}
