import java.io.IOException;
import java.lang.reflect.Method;
import java.nio.file.Files;
import java.nio.file.Path;
import java.util.List;
import java.util.Set;
import java.util.TreeSet;
import java.util.regex.Matcher;
import java.util.regex.Pattern;
import java.util.stream.Stream;

/** README.md against what is here: its example is run, its calls are the face's, its tests are the files. */
public final class ReadmeTests {
    private static final Check CHECK = new Check("ReadmeTests");
    private static final Path README = Path.of("README.md");
    private static final Path TESTS = Path.of("src/test/java");
    private static final Pattern NEW = Pattern.compile("MovedMembers x = new MovedMembers\\(\\);");
    private static final Pattern LETTERS =
        Pattern.compile("for \\(char letter : \"([^\"]*)\"\\.toCharArray\\(\\)\\) x\\.letter\\(letter\\);");
    private static final Pattern CALL = Pattern.compile("x\\.(\\w+)\\(([^)]*)\\); +// (-?\\d+)\\b.*");
    private static final Pattern QUOTED = Pattern.compile("`([^`]*)`");
    private static final int LEAST_CALLS = 7;

    public static void main(String[] args) throws Exception {
        List<String> lines = Files.readAllLines(README);
        int from = lines.indexOf("```java") + 1;
        List<String> behind = lines.subList(from, lines.size());
        example(behind.subList(0, Math.max(0, behind.indexOf("```"))));
        calls(lines);
        files(lines);
        CHECK.end();
    }

    private static void example(List<String> lines) throws Exception {
        MovedMembers x = null;
        int asked = 0;
        for (String line : lines) {
            Matcher letters = LETTERS.matcher(line);
            Matcher call = CALL.matcher(line);
            if (NEW.matcher(line).matches()) {
                x = new MovedMembers();
            } else if (letters.matches()) {
                Check.page(x, letters.group(1));
            } else if (call.matches()) {
                CHECK.due(line, answer(x, call.group(1), call.group(2)), Long.parseLong(call.group(3)));
                asked++;
            } else {
                CHECK.holds("a line of the example that can be read: " + line, false);
            }
        }
        CHECK.holds("the example asks for something", asked >= LEAST_CALLS);
    }

    private static long answer(MovedMembers x, String name, String told) throws Exception {
        String[] words = told.isEmpty() ? new String[0] : told.split(", ");
        for (Method method : MovedMembers.class.getMethods()) {
            if (method.getName().equals(name) && method.getParameterCount() == words.length) {
                Object[] values = new Object[words.length];
                for (int n = 0; n < words.length; n++) {
                    boolean isNumber = method.getParameterTypes()[n] == int.class;
                    values[n] = isNumber ? (Object) Integer.valueOf(words[n]) : (Object) Boolean.valueOf(words[n]);
                }
                return ((Number) method.invoke(x, values)).longValue();
            }
        }
        throw new IllegalStateException("no such call: " + name + "(" + told + ")");
    }

    /** The words in the first column of the table under a heading. */
    private static Set<String> firstColumn(List<String> lines, String heading) {
        Set<String> found = new TreeSet<>();
        int from = lines.indexOf(heading);
        CHECK.holds("README.md has " + heading, from >= 0);
        for (int n = from + 1; n < lines.size() && !lines.get(n).startsWith("## "); n++) {
            Matcher word = QUOTED.matcher(lines.get(n).startsWith("|") ? lines.get(n).split("\\|")[1] : "");
            while (word.find()) {
                found.add(word.group(1));
            }
        }
        return found;
    }

    private static void calls(List<String> lines) {
        Set<String> due = new TreeSet<>();
        for (Method method : MovedMembers.class.getDeclaredMethods()) {
            if (java.lang.reflect.Modifier.isPublic(method.getModifiers())) {
                due.add(method.getName());
            }
        }
        Set<String> found = firstColumn(lines, "## Calls");
        CHECK.holds("the calls that README.md tells of: " + found, found.equals(due));
    }

    private static void files(List<String> lines) throws IOException {
        Set<String> due = new TreeSet<>();
        try (Stream<Path> all = Files.list(TESTS)) {
            all.forEach(file -> due.add(file.getFileName().toString().replace(".java", "")));
        }
        Set<String> found = firstColumn(lines, "## Tests");
        CHECK.holds("the tests that README.md tells of: " + found, found.equals(due));
    }
}
