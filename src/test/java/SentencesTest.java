import java.io.IOException;
import java.nio.file.Files;
import java.nio.file.Path;
import java.util.HashMap;
import java.util.HashSet;
import java.util.Map;
import java.util.Set;

/** Whether the document says what sentences.txt tells, and the tests that stand there are run. */
public final class SentencesTest {
    private static final Path DOCUMENT = Path.of("../shared/DOC.md");
    private static final Path SENTENCES = Path.of("src/test/sentences.txt");
    private static final int PROMISES = 22;

    public static void main(String[] args) throws IOException {
        Map<String, String> chapters = chapters();
        Set<String> told = new HashSet<>();
        String chapter = "";
        for (String line : Files.readAllLines(SENTENCES)) {
            int end = line.lastIndexOf(" = ");
            if (line.startsWith("# ")) {
                chapter = line.substring(2);
                Checks.isTrue("a chapter: " + chapter, chapters.containsKey(chapter));
            } else if (!chapter.isEmpty() && end > 0) {
                String sentence = line.substring(0, end);
                Checks.isTrue(chapter + " says: " + sentence, chapters.getOrDefault(chapter, "").contains(sentence));
                runs(line.substring(end + 3));
                told.add(chapter.split(":")[0]);
            }
        }
        for (int promise = 1; promise <= PROMISES; promise++) {
            Checks.isTrue("a sentence of the promise " + promise, told.contains("Promise " + promise));
        }
        Checks.finish();
    }

    private static boolean isHeading(String line) {
        return line.startsWith("## ") || line.matches("[A-Z][A-Z ]+");
    }

    private static Map<String, String> chapters() throws IOException {
        Map<String, String> chapters = new HashMap<>();
        String chapter = "";
        for (String line : Files.readAllLines(DOCUMENT)) {
            if (isHeading(line)) {
                chapter = line.startsWith("## ") ? line.substring(3) : line;
            } else {
                chapters.merge(chapter, line + "\n", String::concat);
            }
        }
        return chapters;
    }

    private static void runs(String tests) throws IOException {
        for (String test : tests.split(" ")) {
            int dot = test.indexOf('.');
            Path file = Path.of("src/test/java/" + test.substring(0, dot) + ".java");
            String source = Files.readString(file);
            Checks.isTrue(test + " is run", source.contains("\n        " + test.substring(dot + 1) + "();\n"));
        }
    }
}
