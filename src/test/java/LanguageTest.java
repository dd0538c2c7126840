import java.io.IOException;
import java.nio.file.Files;
import java.nio.file.Path;
import java.util.List;
import java.util.regex.Matcher;
import java.util.regex.Pattern;

/** Rules of LANGUAGE.md that can be seen in the source. Run in the project's folder. */
public final class LanguageTest {
    private static final Path SOURCE = Path.of("src/main/java/HillsLieDown.java");

    /** What no line of code may hold. */
    private static final String[] RULED_OUT = {
        "->", "::", "@", "\\bfinally\\b", "\\bsynchronized\\b", "\\bassert\\b", "Exact\\b", "\\bfloat\\b",
        "\\bdouble\\b", "\\brecord\\b", "\\bgoto\\b", "\\bRandom\\b", "\\bThread\\b", "\\bpackage\\b",
        "System\\.(?!arraycopy)", "\\bMIN_VALUE\\b", "\\bMAX_VALUE\\b", "static \\{", "getMessage",
        "catch \\((?!IllegalStateException|IllegalArgumentException)", "\\.equals\\b", "\\bhashCode\\b",
        "\\btoString\\b", "^import (?!java\\.util\\.Arrays;)"};

    public static void main(String[] args) throws IOException {
        List<String> lines = Files.readAllLines(SOURCE);
        boolean inComment = false;
        int methodFrom = -1;
        for (int i = 0; i < lines.size(); i++) {
            String line = lines.get(i);
            Check.due("signs of line " + (i + 1), line.chars().allMatch(c -> c >= 32 && c < 127) ? 1 : 0, 1);
            inComment = inComment || line.trim().startsWith("/*");
            String code = inComment ? "" : line.replaceAll("//.*", "").replaceAll("\"[^\"]*\"", "\"\"");
            inComment = inComment && !line.contains("*/");
            for (String pattern : RULED_OUT) {
                boolean found = Pattern.compile(pattern).matcher(code).find();
                Check.due("\"" + pattern + "\" in line " + (i + 1), found ? 1 : 0, 0);
            }
            if (code.matches(" {4}( {4})?[a-z].*\\).* \\{") && !code.contains("class ")
                    && !code.trim().matches("(if|for|while|switch|try|do|else)\\b.*")) {
                methodFrom = i;
                parameters(code, i);
            }
            if (methodFrom >= 0 && code.matches(" {4}( {4})?\\}")) {
                Check.due("a long method that ends at line " + (i + 1), i - methodFrom > 60 ? 1 : 0, 0);
            }
        }
        Check.end("LanguageTest");
    }

    private static void parameters(String head, int i) {
        Matcher m = Pattern.compile("\\((.*)\\)").matcher(head);
        int many = m.find() && !m.group(1).isEmpty() ? m.group(1).split(",").length : 0;
        Check.due("more than seven parameters in line " + (i + 1), many > 7 ? 1 : 0, 0);
    }
}
