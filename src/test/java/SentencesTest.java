import java.io.IOException;
import java.nio.charset.StandardCharsets;
import java.nio.file.DirectoryStream;
import java.nio.file.Files;
import java.nio.file.Path;
import java.util.ArrayList;
import java.util.Arrays;
import java.util.List;
import java.util.regex.Matcher;
import java.util.regex.Pattern;

/** The sentences that the tests name stand in the document, and of its Terms and promises none is left unnamed. */
public final class SentencesTest {
    private static final Path DOCUMENT = Path.of("../shared/DOC.md");
    private static final Pattern NAMED = Pattern.compile("due\\.sentence\\(\"([^\"]*)\"\\)");
    private static final int PROMISES = 23;
    /** Heads, calls, and what the interface says ahead of them are no sentences. */
    private static final Pattern NO_SENTENCE = Pattern.compile(
            "## Terms|```(text)?|`[A-Za-z][^`]*\\)`|## Promise \\d+: [^`]+|Ahead of the calls .*? ---- [a-z ]+\\.");
    /** What else may stand unnamed between two sentences: what they are of, signs and numbers. */
    private static final Pattern LABEL = Pattern.compile(
            "[^A-Za-z]*(|PEOPLE|Ptam|Aij|FAULT|and|COUNT of a TOWN|FORGOTTEN|A LIE for a TOWN"
            + "|TO LEAVE a TOWN|SPANS|TO ASK|RETOLD|CHANCE|REFUSALS)[^A-Za-z]*");

    public static void main(String[] args) throws IOException {
        Due due = new Due("SentencesTest");
        String document = Files.readString(DOCUMENT, StandardCharsets.UTF_8).replaceAll("\\s+", " ");
        List<String> sentences = namedByTests();
        for (String sentence : sentences) {
            due.holds("\"" + sentence + "\" stands in the document", document.contains(sentence));
        }
        String[] parts = document.split("## Promise ");
        due.due("promises", parts.length - 1, PROMISES);
        for (int k = 1; k < parts.length; k++) {
            String promise = parts[k];
            due.holds("a test names a sentence of promise " + k, sentences.stream().anyMatch(promise::contains));
        }
        namesAll(due, document, sentences);
        due.end();
    }

    private static void namesAll(Due due, String document, List<String> sentences) {
        int from = document.indexOf("## Terms");
        int to = document.indexOf("## Not promised");
        boolean[] named = new boolean[document.length()];
        for (String sentence : sentences) {
            for (int at = document.indexOf(sentence); at >= 0; at = document.indexOf(sentence, at + 1)) {
                Arrays.fill(named, at, at + sentence.length(), true);
            }
        }
        Matcher found = NO_SENTENCE.matcher(document).region(from, to);
        while (found.find()) {
            Arrays.fill(named, found.start(), found.end(), true);
        }
        StringBuilder unnamed = new StringBuilder();
        for (int at = from; at < to; at++) {
            unnamed.append(named[at] ? '\n' : document.charAt(at));
        }
        for (String rest : unnamed.toString().split("\n+")) {
            due.holds("a test names \"" + rest + "\"", LABEL.matcher(rest).matches());
        }
    }

    private static List<String> namedByTests() throws IOException {
        List<String> sentences = new ArrayList<>();
        try (DirectoryStream<Path> files = Files.newDirectoryStream(Path.of("src/test/java"), "*Test.java")) {
            for (Path file : files) {
                Matcher found = NAMED.matcher(Files.readString(file, StandardCharsets.UTF_8));
                while (found.find()) {
                    sentences.add(found.group(1));
                }
            }
        }
        return sentences;
    }
}
