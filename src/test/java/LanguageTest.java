import java.io.IOException;
import java.nio.charset.StandardCharsets;
import java.nio.file.Files;
import java.nio.file.Path;
import java.util.regex.Matcher;
import java.util.regex.Pattern;

/** What of the rules in LANGUAGE.md the words of the source show; the others are for a reader. */
public final class LanguageTest {
    private static final Path SOURCE = Path.of("src", "main", "java", "CrowdFaces.java");

    private static final String[][] FORBIDDEN = {
        {"a package line", "\\bpackage\\b"},
        {"3: other types", "\\b(Map|HashMap|TreeMap|HashSet|TreeSet|BigInteger|Object|Optional|Stream)\\b"},
        {"4: another static function", "\\bMath\\.\\w*Exact\\b|\\bMath\\.random\\b|\\bString\\.(format|valueOf)\\b"},
        {"5: a static initialiser block", "\\bstatic\\s*\\{"},
        {"6: finally, synchronized, assert", "\\b(finally|synchronized|assert)\\b"},
        {"6: a catch of what the machine throws",
            "\\bcatch\\s*\\([^)]*\\b(Throwable|Exception|Error|NullPointerException|ClassCastException|"
                + "ArrayIndexOutOfBoundsException|NegativeArraySizeException|ArrayStoreException)\\b"},
        {"6: a class of exceptions", "\\bextends\\s+\\w*(Exception|Error|Throwable)\\b"},
        {"2: a method reference", "::"},
        {"13: time, chance, files, threads",
            "\\bSystem\\.(?!arraycopy\\b)|\\b(Random|Thread|Runtime|Files?|Scanner|Instant|Clock|Process)\\b"},
    };

    private LanguageTest() {
    }

    public static void main(String[] args) throws IOException {
        String code = withoutTexts(Files.readString(SOURCE, StandardCharsets.UTF_8));
        for (String[] rule : FORBIDDEN) {
            Matcher found = Pattern.compile(rule[1]).matcher(code);
            Check.same(rule[0], found.find() ? "line " + line(code, found.start()) : "none", "none");
        }
        classes(code);
        methods(code);
        Check.finish();
    }

    /** The source with blanks for comments, strings and characters. */
    private static String withoutTexts(String source) {
        Matcher text = Pattern.compile("/\\*.*?\\*/|//[^\n]*|\"(\\\\.|[^\"\\\\\n])*\"|'(\\\\.|[^'\\\\\n])+'",
                Pattern.DOTALL).matcher(source);
        StringBuilder code = new StringBuilder(source);
        while (text.find()) {
            for (int at = text.start(); at < text.end(); at++) {
                if (source.charAt(at) != '\n') {
                    code.setCharAt(at, ' ');
                }
            }
        }
        return code.toString();
    }

    private static int line(String code, int at) {
        return (int) code.substring(0, at).chars().filter(c -> c == '\n').count() + 1;
    }

    private static void classes(String code) {
        Matcher found = Pattern.compile("\\b(class|interface|enum|record)\\s+(\\w+)").matcher(code);
        int count = 0;
        while (found.find()) {
            count++;
        }
        Check.same("11: some twelve classes, there are " + count, count <= 13 ? 1 : 0, 1);
    }

    private static void methods(String code) {
        Matcher head = Pattern.compile("\\b(\\w+)\\s*\\(([^()]*)\\)\\s*(throws [\\w, ]+)?\\{").matcher(code);
        while (head.find()) {
            String name = head.group(1);
            if (!name.matches("if|for|while|switch|catch")) {
                int parameters = head.group(2).isBlank() ? 0 : head.group(2).split(",").length;
                Check.same("11: " + name + " has " + parameters + " parameters", parameters <= 7 ? 1 : 0, 1);
                int lines = line(code, endOfBlock(code, head.end())) - line(code, head.start());
                Check.same("11: " + name + " has " + lines + " lines", lines <= 65 ? 1 : 0, 1);
            }
        }
    }

    private static int endOfBlock(String code, int from) {
        int open = 1;
        int at = from;
        while (open > 0 && at < code.length()) {
            open += code.charAt(at) == '{' ? 1 : code.charAt(at) == '}' ? -1 : 0;
            at++;
        }
        return at;
    }
}
