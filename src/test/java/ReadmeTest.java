import java.io.IOException;
import java.lang.reflect.InvocationTargetException;
import java.lang.reflect.Method;
import java.nio.charset.StandardCharsets;
import java.nio.file.DirectoryStream;
import java.nio.file.Files;
import java.nio.file.Path;
import java.util.List;
import java.util.Set;
import java.util.TreeSet;
import java.util.regex.Matcher;
import java.util.regex.Pattern;

/** What README.md says is true: its examples answer as it tells, and its table has all tests. */
public final class ReadmeTest {
    private static final String MAKES = "CountedMissing x = new CountedMissing();";
    private static final Pattern CALL = Pattern.compile("x\\.(\\w+)\\(([^()]*)\\); +// (-?\\d+)(: .*)?");
    private static final Pattern ROW = Pattern.compile("\\| (\\w+Test) \\| .* \\|");

    private final Due due;
    private final Set<String> called = new TreeSet<>();
    private CountedMissing x;

    private ReadmeTest(Due due) {
        this.due = due;
    }

    public static void main(String[] args) throws IOException, ReflectiveOperationException {
        Due due = new Due("ReadmeTest");
        List<String> lines = Files.readAllLines(Path.of("README.md"), StandardCharsets.UTF_8);
        new ReadmeTest(due).examples(lines);
        refusals(due, lines);
        tests(due, lines);
        due.end();
    }

    private void examples(List<String> lines) throws ReflectiveOperationException {
        boolean example = false;
        for (String line : lines) {
            if (line.startsWith("```")) {
                example = line.equals("```java");
            } else if (example) {
                example(line);
            }
        }
        for (Method method : CountedMissing.class.getMethods()) {
            if (method.getDeclaringClass() == CountedMissing.class) {
                due.holds(method.getName() + " is shown", called.contains(method.getName()));
            }
        }
    }

    private void example(String line) throws ReflectiveOperationException {
        if (line.equals(MAKES)) {
            x = new CountedMissing();
            return;
        }
        Matcher call = CALL.matcher(line);
        due.holds("a call and its answer: " + line, call.matches());
        if (call.matches()) {
            due.due(line, answer(call.group(1), call.group(2)), Long.parseLong(call.group(3)));
            called.add(call.group(1));
        }
    }

    private long answer(String name, String told) throws IllegalAccessException, InvocationTargetException {
        String[] texts = told.isEmpty() ? new String[0] : told.split(", ");
        for (Method method : CountedMissing.class.getMethods()) {
            if (method.getName().equals(name) && method.getParameterCount() == texts.length) {
                Object[] arguments = new Object[texts.length];
                for (int k = 0; k < texts.length; k++) {
                    arguments[k] = argument(texts[k], method.getParameterTypes()[k]);
                }
                return ((Number) method.invoke(x, arguments)).longValue();
            }
        }
        throw new IllegalStateException("no such call: " + name + "(" + told + ")");
    }

    private static Object argument(String text, Class<?> type) {
        if (type == boolean.class) {
            return Boolean.valueOf(text);
        }
        if (text.startsWith("'")) {
            return (long) text.charAt(1);
        }
        if (type == long.class) {
            return Long.decode(text.replace("L", ""));
        }
        return Integer.decode(text);
    }

    private static void refusals(Due due, List<String> lines) {
        String page = String.join("\n", lines);
        due.holds("UNKNOWN", page.contains("| `UNKNOWN` " + CountedMissing.UNKNOWN + " |"));
        due.holds("BAD", page.contains("| `BAD` " + CountedMissing.BAD + " |"));
        due.holds("LATE", page.contains("| `LATE` " + CountedMissing.LATE + " |"));
        due.holds("FULL", page.contains("| `FULL` " + CountedMissing.FULL + " |"));
        due.holds("NONE", page.contains("`NONE`, " + CountedMissing.NONE + ","));
        CountedMissing x = new CountedMissing();
        for (int k = 1; k <= 10; k++) {
            due.due("write " + k, x.write(8, 0), 8 * k);
        }
        due.due("the 11th write(8, 0) of a new object", x.write(8, 0), CountedMissing.FULL);
    }

    private static void tests(Due due, List<String> lines) throws IOException {
        Set<String> told = new TreeSet<>();
        for (String line : lines) {
            Matcher row = ROW.matcher(line);
            if (row.matches()) {
                due.holds(row.group(1) + " is told once", told.add(row.group(1)));
            }
        }
        Set<String> there = new TreeSet<>();
        try (DirectoryStream<Path> files = Files.newDirectoryStream(Path.of("src/test/java"), "*Test.java")) {
            for (Path file : files) {
                there.add(file.getFileName().toString().replace(".java", ""));
            }
        }
        due.holds("the tests told " + told + " are those there " + there, told.equals(there));
    }
}
