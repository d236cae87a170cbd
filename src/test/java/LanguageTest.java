import java.nio.file.Files;
import java.nio.file.Path;
import java.util.List;
import java.util.regex.Matcher;
import java.util.regex.Pattern;

/** The rules of LANGUAGE.md that can be seen in the words of the source. */
final class LanguageTest {
    private static final List<String> NEVER = List.of("\\bimport\\b", "\\bthrow\\b", "\\bthrows\\b", "\\btry\\b", "\\bcatch\\b",
        "\\bfinally\\b", "\\bsynchronized\\b", "\\bassert\\b", "->", "::", "\\bdouble\\b", "\\bfloat\\b", "\\bprotected\\b",
        "\\bvar\\b", "Exact\\b", "\\bSystem\\.(?!arraycopy)", "\\bObject\\b", "\\bThread\\b", "\" *\\+", "\\+ *\"", "\\bpackage\\b",
        "@", "static \\{", "\\bwhile *\\(true\\)", "\\bfor *\\(;;\\)");

    private LanguageTest() { }

    public static void main(String[] args) throws Exception {
        String source = Files.readString(Path.of("src/main/java/OthersMan.java"));
        String code = source.replaceAll("(?s)/\\*.*?\\*/", "").replaceAll("//.*", "");
        for (String never : NEVER) Checks.due("never " + never, count(code, never), 0);
        Checks.due("ascii alone", source.chars().filter(c -> c > 126).count(), 0);
        Checks.due("public class", count(code, "public final class OthersMan"), 1);
        Checks.due("classes inside are private, static", count(code, "\\bclass\\b") - 1, count(code, "private static final class"));
        Checks.due("twelve classes at most", count(code, "\\bclass\\b") <= 12 ? 0 : 1, 0);
        Checks.due("public members", count(code, "(?m)^    public "), 2 + 1 + 28 - 1);
        for (String recursive : List.of("valueIn", "mostFrom", "afterTold", "afterRefused", "afterDone")) {
            Checks.due("private, as it is part of a recursion: " + recursive, count(code, "private int " + recursive + "\\("), 1);
        }
        namesOfMethods(code);
        lengthsOfMethods(code);
        Checks.end();
    }

    private static int count(String code, String pattern) {
        Matcher m = Pattern.compile(pattern).matcher(code);
        int found = 0;
        while (m.find()) found++;
        return found;
    }

    /** No private method bears the name of a public one; outside the face nothing is seen. */
    private static void namesOfMethods(String code) {
        Matcher face = Pattern.compile("(?m)^    public (?:int|long) (\\w+)\\(").matcher(code);
        int calls = 0;
        while (face.find()) {
            calls++;
            Checks.due("one method is called " + face.group(1), count(code, "(?:int|long|boolean|void|Walk) " + face.group(1) + "\\("), 1);
        }
        Checks.due("calls of the face", calls, 27);
        Checks.due("members of the class itself that are seen",
            count(code, "(?m)^    (?!public |private |}|\\{)\\S"), 0);
    }

    private static void lengthsOfMethods(String code) {
        String end = null;
        int lines = 0;
        for (String line : code.split("\n")) {
            lines++;
            if (end == null && line.matches(" {4}(?: {4})?\\w.*\\) \\{")) {
                end = line.replaceAll("\\S.*", "") + "}";
                lines = 0;
            } else if (line.equals(end)) {
                Checks.due("lines of the method that ends with '" + line + "'", Math.max(lines, 60), 60);
                end = null;
            }
        }
    }
}
