import java.io.IOException;
import java.nio.file.Files;
import java.nio.file.Path;
import java.util.List;
import java.util.regex.Matcher;
import java.util.regex.Pattern;

/** Those rules of LANGUAGE.md that can be seen in the text of the class; run at the project's root. */
public final class LanguageTest {
    private static final Check CHECK = new Check("language");
    private static final Pattern METHOD = Pattern.compile(
            "^( +)(?:(?:public|private|static|final) )*[A-Za-z\\[\\]]+ ?[A-Za-z0-9]*\\(([^()]*)\\) \\{$");

    private static final String[] FORBIDDEN = {"->", "::", "\\bthrows?\\b", "\\btry\\b", "\\bcatch\\b", "\\bfinally\\b",
        "\\bDouble\\b", "\\bFloat\\b", "Exact\\b", "\\bsynchronized\\b", "\\bassert\\b", "static \\{", "\\bvar\\b",
        "\\bprotected\\b", "\\bpackage\\b", "\\bThread\\b", "\\bRandom\\b", "System\\.(?!arraycopy)", "\\bObject\\b",
        "\\bnew Integer\\b", "\\bBigInteger\\b", "doubleTo", "floatTo", "\\bHashMap\\b", "\\bfor \\(;;\\)",
        "while \\(true\\)", "[^\\x00-\\x7f]"};

    public static void main(String[] args) throws IOException {
        List<String> lines = Files.readAllLines(Path.of("src/main/java/RiskBands.java"));
        int longest = 0;
        int classes = 0;
        int begun = -1;
        String indent = "";
        for (int i = 0; i < lines.size(); i++) {
            String code = lines.get(i).replaceAll("^ *(//|/?\\*).*", "").replaceAll("/\\*\\*.*\\*/", "");
            for (String word : FORBIDDEN) {
                if (Pattern.compile(word).matcher(code).find()) {
                    CHECK.text("line " + (i + 1), code, "a line without " + word);
                }
            }
            if (code.startsWith("import ")) {
                CHECK.text("line " + (i + 1), code, "import java.util.Arrays;");
            }
            if (code.matches(".*\\bstatic\\b.*=.*")) {
                CHECK.same("static final in line " + (i + 1), code.contains("static final") ? 1 : 0, 1);
            }
            classes += code.matches(".*\\bclass [A-Z].*") ? 1 : 0;
            Matcher head = METHOD.matcher(code);
            if (head.find()) {
                begun = i;
                indent = head.group(1);
                CHECK.same("parameters in line " + (i + 1), Math.max(head.group(2).split(",").length, 7), 7);
            } else if (begun >= 0 && code.equals(indent + "}")) {
                longest = Math.max(longest, i - begun + 1);
                begun = -1;
            }
        }
        CHECK.same("the longest method, " + longest, longest > 5 && longest <= 60 ? 1 : 0, 1);
        CHECK.same("classes, " + classes, classes <= 13 ? 1 : 0, 1);
        CHECK.close();
    }
}
