import java.io.IOException;
import java.nio.charset.StandardCharsets;
import java.nio.file.Files;
import java.nio.file.Path;
import java.util.List;
import java.util.regex.Matcher;
import java.util.regex.Pattern;

/** What LANGUAGE.md forbids and a text can show; nothing is made but in fields and constructors. */
public final class SourceTest {
    private static final String[] FORBIDDEN = {"\\bthrow\\b", "\\bthrows\\b", "\\btry\\b", "\\bcatch\\b", "\\bassert\\b",
        "\\bsynchronized\\b", "\\bimport\\b", "\\bpackage\\b", "->", "::", "Exact\\b", "\\bSystem\\.(?!arraycopy)",
        "\\bstatic \\{", "\\bnative\\b", "\\bThread\\b", "\\bprotected\\b", "\"", "[^\\x00-\\x7f]"};
    private static final Pattern FIELD_OR_RING = Pattern.compile("\\s+(private |final |ahead\\[k\\] = ).*");
    private static final int MOST_LINES = 60;

    public static void main(String[] args) throws IOException {
        Due due = new Due("SourceTest");
        List<String> lines = Files.readAllLines(Path.of("src/main/java/CountedMissing.java"), StandardCharsets.UTF_8);
        int opened = 0;
        for (int k = 0; k < lines.size(); k++) {
            String line = lines.get(k).replaceAll("//.*|/\\*\\*.*", "");
            for (String forbidden : FORBIDDEN) {
                Matcher found = Pattern.compile(forbidden).matcher(line);
                due.holds("line " + (k + 1) + " is without " + forbidden, !found.find());
            }
            boolean makes = Pattern.compile("\\bnew\\b").matcher(line).find();
            due.holds("line " + (k + 1) + " makes nothing in a call", !makes || FIELD_OR_RING.matcher(line).matches());
            if (line.matches("\\s+.*\\) \\{") && !line.matches("\\s+(if|for|while|switch|\\}).*")) {
                opened = k;
            } else if (line.matches(" {4}( {4})?\\}")) {
                due.holds("the method at line " + (opened + 1) + " is short", k - opened <= MOST_LINES || opened == 0);
                opened = 0;
            }
        }
        due.end();
    }
}
