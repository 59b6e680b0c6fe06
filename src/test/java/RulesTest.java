import java.io.IOException;
import java.nio.file.Files;
import java.nio.file.Path;
import java.util.List;
import java.util.regex.Matcher;
import java.util.regex.Pattern;

/** What can be seen of ../shared/LANGUAGE.md in the program's text. */
public final class RulesTest {
    private static final Check C = new Check();
    private static final List<String> BARRED = List.of("->", "::", "\\bimport\\b", "\\bpackage\\b", "\\bcatch\\b",
        "\\btry\\b", "\\bsynchronized\\b", "\\bassert\\b", "\\bfinally\\b", "\\bvar\\b", "Exact\\b", "\\bSystem\\.",
        "\\bThread\\b", "\\bprotected\\b", "static \\{", "\\+ \"", "\" \\+", "\\bhashCode\\b", "\\btoString\\b",
        "\\bequals\\b", "while \\(true\\)", "\\bObject\\b", "[^\\x00-\\x7e]");

    private RulesTest() { }

    public static void main(String[] args) throws IOException {
        String text = Files.readString(Path.of("src/main/java/CopperDispatch.java"));
        String code = text.replaceAll("(?s)/\\*.*?\\*/", "").replaceAll("//[^\n]*", "");
        for (String barred : BARRED) {
            C.due(barred + false, () -> barred + Pattern.compile(barred).matcher(code).find());
        }
        Matcher thrown = Pattern.compile("throw new (\\w+)\\(\"[^\"]+\"\\);").matcher(code);
        int count = 0;
        while (thrown.find()) {
            String name = thrown.group(1);
            C.due(name + true, () -> name + List.of("IndexOutOfBoundsException", "IllegalArgumentException",
                "IllegalStateException").contains(name));
            count++;
        }
        int found = count;
        C.due(code.split("\\bthrow\\b").length - 1, () -> found);
        C.due(true, () -> code.split("\\bclass [A-Z]").length - 1 <= 12);
        methodsAreShort(code);
        C.end();
    }

    private static void methodsAreShort(String code) {
        String[] lines = code.split("\n");
        for (int k = 0; k < lines.length; k++) {
            int line = k;
            C.due(k + " " + true, () -> line + " " + (lines[line].length() <= 120));
            Matcher head = Pattern.compile("^( {4}| {8})(?!.*class )\\S.*\\{$").matcher(lines[k]);
            if (head.matches() && !lines[k].contains(" = ")) {
                int end = k;
                while (end < lines.length && !lines[end].equals(head.group(1) + "}")) {
                    end++;
                }
                int length = end - k;
                C.due(k + " " + true, () -> line + " " + (length <= 60));
            }
        }
    }
}
