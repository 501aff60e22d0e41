import java.io.IOException;
import java.nio.file.Files;
import java.nio.file.Path;
import java.util.ArrayList;
import java.util.List;
import java.util.regex.Matcher;
import java.util.regex.Pattern;

/** README.md, taken apart: what it says in Java, in the shell, and in its table of tests. */
final class ReadmePage {
    private static final Pattern FENCE = Pattern.compile("```(\\w*)");
    private static final Pattern ROW = Pattern.compile("\\| `(\\w+)` \\|.*");
    private static final Pattern CALL = Pattern.compile("(?:int (\\w+) = )?(house\\.(\\w+)\\(.*\\));(.*)");
    private static final Pattern ANSWER = Pattern.compile(" +// (-?\\d+|true|false|\\w+Exception)(?:[^\\w.].*)?");

    /** All lines of Java, one behind the other. */
    final List<String> java = new ArrayList<>();
    /** All lines for the shell. */
    final List<String> shell = new ArrayList<>();
    /** The names at the front of the rows of the table. */
    final List<String> tests = new ArrayList<>();

    /** A call that the page shows, and the answer behind it: null if there is none. */
    record Shown(String line, String name, String call, String method, String answer) {
        static Shown of(String line) {
            Matcher call = CALL.matcher(line);
            if (!call.matches()) {
                return null;
            }
            Matcher answer = ANSWER.matcher(call.group(4));
            return new Shown(line, call.group(1), call.group(2), call.group(3),
                answer.matches() ? answer.group(1) : null);
        }
    }

    /** It stands where .ci/run runs the tests: in the project's own directory. */
    static ReadmePage read() throws IOException {
        ReadmePage page = new ReadmePage();
        String fenced = null;
        for (String line : Files.readAllLines(Path.of("README.md"))) {
            Matcher fence = FENCE.matcher(line);
            Matcher row = ROW.matcher(line);
            if (fence.matches()) {
                fenced = fenced == null ? fence.group(1) : null;
            } else if (fenced == null && row.matches()) {
                page.tests.add(row.group(1));
            } else if ("java".equals(fenced)) {
                page.java.add(line);
            } else if ("sh".equals(fenced)) {
                page.shell.add(line);
            }
        }
        return page;
    }

    /** The calls that stand alone on a line; those inside a loop have no answer of their own. */
    List<Shown> shown() {
        List<Shown> shown = new ArrayList<>();
        for (String line : java) {
            Shown one = Shown.of(line);
            if (one != null) {
                shown.add(one);
            }
        }
        return shown;
    }

    /** The lines, in which each call that stands alone puts its answer, or its exception, into the list said. */
    String noting() {
        StringBuilder text = new StringBuilder();
        for (String line : java) {
            Shown one = Shown.of(line);
            if (one != null && one.name() == null) {
                text.append("try { said.add(String.valueOf(").append(one.call()).append(")); }\n");
                text.append("catch (RuntimeException thrown) { said.add(thrown.getClass().getSimpleName()); }\n");
                continue;
            }
            text.append(line).append('\n');
            if (one != null) {
                text.append("said.add(String.valueOf(").append(one.name()).append("));\n");
            }
        }
        return text.toString();
    }
}
