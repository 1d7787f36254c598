import java.io.IOException;
import java.nio.file.Files;
import java.nio.file.Path;
import java.util.Arrays;
import java.util.HashSet;
import java.util.List;
import java.util.Set;
import java.util.regex.Matcher;
import java.util.regex.Pattern;

/** The rules of LANGUAGE.md that can be seen from the text of the program. */
public final class LanguageTest {
    private static final String[] NEVER = {
        "->", "::", "\\bfinally\\b", "\\bsynchronized\\b", "\\bassert\\b", "\\bvar\\b", "\\bdouble\\b", "\\bfloat\\b", "static \\{",
        "while \\(true\\)", "for \\(;;\\)", "for \\([^;]*;\\s*;", "Exact\\b", "\\bcatch\\b", "\\bThread\\b", "\\bpackage\\b",
        "\\.equals\\(", "hashCode", "toString", "\\bprotected\\b"
    };
    private static final Set<String> LIBRARY = new HashSet<>(Arrays.asList(
            "Math.min", "Math.max", "Integer.bitCount", "Long.bitCount"));

    public static void main(String[] args) throws IOException {
        Check check = new Check("LanguageTest");
        List<String> lines = Files.readAllLines(Path.of("src/main/java/NotchedCards.java"));
        String whole = String.join("\n", lines).replaceAll("(?s)/\\*.*?\\*/", "").replaceAll("//[^\n]*", "").replaceAll("\"[^\"\n]*\"", "\"\"");
        for (String pattern : NEVER) {
            check.due("never " + pattern, Pattern.compile(pattern).matcher(whole).find() ? 1 : 0, 0);
        }
        Matcher library = Pattern.compile("\\b(Math|Integer|Long|System|Arrays|String|Character|Byte)\\.\\w+").matcher(whole);
        while (library.find()) {
            check.due("of the library: " + library.group(), LIBRARY.contains(library.group()) ? 1 : 0, 1);
        }
        Matcher imports = Pattern.compile("import ([\\w.]+);").matcher(whole);
        while (imports.find()) {
            check.due("import " + imports.group(1), imports.group(1).equals("java.util.NoSuchElementException") ? 1 : 0, 1);
        }
        Matcher throwing = Pattern.compile("throw new (\\w+)").matcher(whole);
        while (throwing.find()) {
            boolean isTold = throwing.group(1).equals("IndexOutOfBoundsException") || throwing.group(1).equals("NoSuchElementException");
            check.due("throws " + throwing.group(1), isTold ? 1 : 0, 1);
        }
        for (String line : lines) {
            boolean isRight = !line.matches(".*\\bnew \\w+\\[.*") || line.matches(" +(private )?final .*");
            check.due("arrays are made with the object alone: " + line, isRight ? 1 : 0, 1);
            boolean isKept = !line.matches(".*\\bnew \\w+\\(.*") || line.matches(" {4}private (final )?\\w+ \\w+ = new \\w+\\(\\);|.*\\bthrow new .*");
            check.due("objects are made with the object alone: " + line, isKept ? 1 : 0, 1);
        }
        methods(check, lines);
        check.end();
    }

    private static void methods(Check check, List<String> lines) {
        Pattern head = Pattern.compile("^( {4}| {8})(?! )(?!.*\\bclass\\b)[\\w\\[\\] ]*\\w+\\(([^)]*)\\)[^;=]*\\{$");
        int from = -1;
        String end = "";
        int methods = 0;
        for (int i = 0; i < lines.size(); i++) {
            Matcher matcher = head.matcher(lines.get(i));
            if (from < 0 && matcher.matches()) {
                from = i;
                end = matcher.group(1) + "}";
                methods++;
                check.due("parameters: " + lines.get(i), matcher.group(2).split(",").length <= 7 ? 1 : 0, 1);
            } else if (from >= 0 && lines.get(i).equals(end)) {
                check.due("at most sixty lines: " + lines.get(from), i - from + 1 <= 60 ? 1 : 0, 1);
                from = -1;
            }
        }
        check.due("methods were found", methods > 100 ? 1 : 0, 1);
    }
}
