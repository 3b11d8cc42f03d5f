import java.io.IOException;
import java.lang.reflect.Method;
import java.lang.reflect.Modifier;
import java.net.URISyntaxException;
import java.nio.charset.StandardCharsets;
import java.nio.file.Files;
import java.nio.file.Path;
import java.util.ArrayList;
import java.util.List;
import java.util.Map;
import java.util.TreeMap;
import java.util.regex.Matcher;
import java.util.regex.Pattern;
import javax.tools.ToolProvider;

/** README.md: its calls answer what it says of them, and its tables have the calls of the public face. */
public final class ReadmeTest {
    private static final Path README = Path.of("README.md");
    private static final Path DOCUMENT = Path.of("..", "shared", "DOC.md");
    private static final String NAME = "ReadmeCalls";
    private static final Pattern CALL = Pattern.compile("film\\.(\\w+)\\(.*\\);");
    private static final Pattern ANSWER =
            Pattern.compile("(film\\.\\w+\\(.*\\)); +// (-?\\d+|throws (\\w+))(?:: .*)?");
    private static final Pattern ROW = Pattern.compile("\\| `(\\w+)\\(([^)]*)\\)` \\| (.*) \\| ([^|]*)\\|");
    private static final Pattern HEAD = Pattern.compile("public int (\\w+)\\((.*?)\\)(?: throws (.*))?;");

    private ReadmeTest() {
    }

    public static void main(String[] args) throws IOException, ReflectiveOperationException, URISyntaxException {
        List<String> lines = Files.readAllLines(README, StandardCharsets.UTF_8);
        rows(lines);
        everyCallIsShown(lines);
        makeCalls(lines);
        Check.finish();
    }

    // ---- the tables

    private static void rows(List<String> lines) throws IOException {
        Check.sentence("README.md: What it says must be what the document says.");
        String document = Files.readString(DOCUMENT, StandardCharsets.UTF_8);
        Map<String, String> due = documentedCalls(document);
        Map<String, String> told = new TreeMap<>();
        for (String line : lines) {
            Matcher row = ROW.matcher(line);
            if (row.matches()) {
                String call = row.group(1) + "(" + row.group(2) + ")";
                Check.same("rows of " + call, told.containsKey(call) ? 2 : 1, 1);
                Check.same("throws of " + call, row.group(4).strip(), due.getOrDefault(call, "no such call"));
                told.put(call, row.group(3));
            }
        }
        Check.same("the calls that have a row", told.keySet().toString(), due.keySet().toString());
        for (String call : new String[] {"about(what)", "extraOf(e, what)", "sceneOf(s, what)", "why(s, e)"}) {
            boolean same = document.contains(told.getOrDefault(call, "no row"));
            Check.same("the document has the numbers of " + call, same ? 1 : 0, 1);
        }
    }

    /** The calls of the document's public face, each with the exceptions that it names, in its order. */
    private static Map<String, String> documentedCalls(String document) {
        Map<String, String> calls = new TreeMap<>();
        Matcher head = HEAD.matcher(document);
        while (head.find()) {
            String names = head.group(2).replaceAll("(int|long) ", "");
            String thrown = head.group(3) == null ? "" : head.group(3).replace("Exception", "");
            calls.put(head.group(1) + "(" + names + ")", thrown);
        }
        return calls;
    }

    // ---- the calls

    private static void everyCallIsShown(List<String> lines) {
        Check.sentence("the calls that README.md shows, with the answers that it gives for them");
        String examples = String.join("\n", examples(lines));
        for (Method m : CrowdFaces.class.getDeclaredMethods()) {
            if (Modifier.isPublic(m.getModifiers())) {
                Check.same(m.getName() + " is shown", examples.contains("film." + m.getName() + "(") ? 1 : 0, 1);
            }
        }
    }

    /** The lines of README.md with blanks for those that are not Java, so that each keeps its number. */
    private static List<String> examples(List<String> lines) {
        List<String> found = new ArrayList<>();
        boolean inside = false;
        for (String line : lines) {
            boolean fence = line.startsWith("```");
            found.add(inside && !fence ? line : "");
            inside = fence ? line.equals("```java") : inside;
        }
        return found;
    }

    private static void makeCalls(List<String> lines)
            throws IOException, ReflectiveOperationException, URISyntaxException {
        Check.sentence("the calls that README.md shows, with the answers that it gives for them");
        Path classes = Path.of(ReadmeTest.class.getProtectionDomain().getCodeSource().getLocation().toURI());
        Path source = classes.resolve(NAME + ".java");
        Files.writeString(source, program(examples(lines)), StandardCharsets.UTF_8);
        int code = ToolProvider.getSystemJavaCompiler().run(null, null, null, "-encoding", "UTF-8", "-cp",
                System.getProperty("java.class.path"), "-d", classes.toString(), source.toString());
        Check.same("the examples compile", code, 0);
        if (code == 0) {
            // By name, because this class is compiled before that one is there.
            Class.forName(NAME).getDeclaredMethod("run").invoke(null);
        }
    }

    /** All examples behind one another, each call with a look at its answer. */
    private static String program(List<String> examples) {
        StringBuilder told = new StringBuilder("final class " + NAME + " {\n    static void run() {\n");
        boolean inLoop = false;
        for (int k = 0; k < examples.size(); k++) {
            String line = examples.get(k).strip();
            inLoop = line.startsWith("for ") || inLoop && !line.equals("}");
            Matcher answer = ANSWER.matcher(line);
            if (answer.matches()) {
                told.append(look("README.md, line " + (k + 1), answer));
            } else {
                boolean bare = CALL.matcher(line).find() && !inLoop;
                Check.same("line " + (k + 1) + " has a call without an answer", bare ? 1 : 0, 0);
                told.append(line).append('\n');
            }
        }
        return told.append("    }\n}\n").toString();
    }

    private static String look(String where, Matcher answer) {
        String due = answer.group(3) == null ? answer.group(2) : answer.group(3);
        String name = where + ": " + answer.group(1).replace("\"", "\\\"");
        return "Check.same(\"" + name + "\", Check.answer(() -> " + answer.group(1) + "), \"" + due + "\");\n";
    }
}
