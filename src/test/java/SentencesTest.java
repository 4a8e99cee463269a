import java.io.IOException;
import java.nio.charset.StandardCharsets;
import java.nio.file.DirectoryStream;
import java.nio.file.Files;
import java.nio.file.Path;
import java.util.ArrayList;
import java.util.List;
import java.util.regex.Matcher;
import java.util.regex.Pattern;

/** The sentences that the tests name stand in the document, and there is one at least of every promise. */
public final class SentencesTest {
    private static final Path DOCUMENT = Path.of("../shared/DOC.md");
    private static final Pattern NAMED = Pattern.compile("due\\.sentence\\(\"([^\"]*)\"\\)");
    private static final int PROMISES = 23;

    public static void main(String[] args) throws IOException {
        Due due = new Due("SentencesTest");
        String document = Files.readString(DOCUMENT, StandardCharsets.UTF_8).replaceAll("\\s+", " ");
        List<String> sentences = namedByTests();
        for (String sentence : sentences) {
            due.holds("\"" + sentence + "\" stands in the document", document.contains(sentence));
        }
        String[] parts = document.split("## Promise ");
        due.due("promises", parts.length - 1, PROMISES);
        for (int k = 1; k < parts.length; k++) {
            String promise = parts[k];
            due.holds("a test names a sentence of promise " + k, sentences.stream().anyMatch(promise::contains));
        }
        due.end();
    }

    private static List<String> namedByTests() throws IOException {
        List<String> sentences = new ArrayList<>();
        try (DirectoryStream<Path> files = Files.newDirectoryStream(Path.of("src/test/java"), "*Test.java")) {
            for (Path file : files) {
                Matcher found = NAMED.matcher(Files.readString(file, StandardCharsets.UTF_8));
                while (found.find()) {
                    sentences.add(found.group(1));
                }
            }
        }
        return sentences;
    }
}
