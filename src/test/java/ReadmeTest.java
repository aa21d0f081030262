import java.nio.file.Files;
import java.nio.file.Path;
import java.util.ArrayList;
import java.util.List;
import java.util.regex.Matcher;
import java.util.regex.Pattern;
import javax.tools.ToolProvider;

/** README.md's example is compiled as it stands, and each of its calls answers what is written behind it. */
public final class ReadmeTest extends Check {
    private static final String EXAMPLE = "ReadmeExample";
    private static final String FENCE = "```";
    private static final Pattern ANSWERED = Pattern.compile("(town\\..*);\\s*// (-?\\d+|true|false)(:.*)?");
    private static final Pattern REFUSED = Pattern.compile("(town\\..*);\\s*// throws (\\w+)(:.*)?");
    // These answer nothing, so nothing is held.
    private static final Pattern SILENT = Pattern.compile("(town\\.(people|image)\\(|write\\(|LentNames town = ).*");
    private static int held = 0;

    public static void main(String[] args) throws Exception {
        List<String> readme = Files.readAllLines(Path.of("README.md"));
        List<List<String>> blocks = blocks(readme, FENCE + "java");
        due("java blocks in README.md", blocks.size(), 2);
        if (blocks.size() == 2) {
            run(source(blocks.get(0), blocks.get(1)));
            due("answers are held in README.md", held >= 20, true);
        }
        due("README.md has the command that runs the tests", blocks(readme, FENCE + "sh").contains(List.of(".ci/run")), true);
        exit();
    }

    private static List<List<String>> blocks(List<String> lines, String opening) {
        List<List<String>> blocks = new ArrayList<>();
        List<String> open = null;
        for (String line : lines) {
            if (line.equals(opening)) {
                open = new ArrayList<>();
            } else if (line.equals(FENCE) && open != null) {
                blocks.add(open);
                open = null;
            } else if (open != null) {
                open.add(line);
            }
        }
        return blocks;
    }

    private static String source(List<String> members, List<String> statements) {
        List<String> lines = new ArrayList<>();
        lines.add("public class " + EXAMPLE + " extends Check {");
        lines.addAll(members);
        lines.add("public static void go() {");
        for (String statement : statements) {
            lines.add(checked(statement));
        }
        lines.add("}");
        lines.add("}");
        return String.join("\n", lines);
    }

    private static String checked(String line) {
        Matcher answered = ANSWERED.matcher(line);
        Matcher refused = REFUSED.matcher(line);
        if (answered.matches()) {
            held++;
            String call = answered.group(1);
            return "due(\"README.md: " + call + "\", " + call + ", " + answered.group(2) + ");";
        }
        if (refused.matches()) {
            held++;
            String call = refused.group(1);
            return "dueThrow(\"README.md: " + call + "\", " + refused.group(2) + ".class, () -> " + call + ");";
        }
        due("an answer stands behind " + line, line.isBlank() || SILENT.matcher(line).matches(), true);
        return line;
    }

    /** It is compiled into the place where this test's classes are, and so sees them. */
    private static void run(String source) throws Exception {
        Path classes = Path.of(System.getProperty("java.class.path"));
        Path file = classes.resolve(EXAMPLE + ".java");
        Files.writeString(file, source);
        String place = classes.toString();
        int failed = ToolProvider.getSystemJavaCompiler().run(null, null, null, "-cp", place, "-d", place, file.toString());
        due("README.md's example fails to compile", failed, 0);
        if (failed == 0) {
            Class.forName(EXAMPLE).getMethod("go").invoke(null);
        }
    }
}
