import java.io.IOException;
import java.nio.file.Files;
import java.nio.file.Path;
import java.util.List;
import java.util.regex.Pattern;

/** Rules of ../shared/LANGUAGE.md that the text of the class can be asked for; run from the project's folder. */
public final class LanguageTest {
    private static final Checks CHECKS = new Checks();

    private static void without(String code, String rule, String pattern) {
        CHECKS.holds(rule + ": there is no " + pattern, !Pattern.compile(pattern).matcher(code).find());
    }

    private static void lengths(List<String> lines) {
        int begins = -1;
        for (int i = 0; i < lines.size(); i++) {
            String line = lines.get(i);
            if (line.matches(" {4,8}[a-z].*\\) \\{")) {
                begins = i;
            } else if (line.matches(" {4,8}\\}") && begins >= 0) {
                CHECKS.holds("rule 11: the method of line " + (begins + 1) + " is short", i - begins < 60);
                begins = -1;
            }
        }
    }

    public static void main(String[] args) throws IOException {
        Path file = Path.of("src/main/java/PieceSets.java");
        String text = Files.readString(file);
        String code = text.replaceAll("(?s)/\\*.*?\\*/", "").replaceAll("//.*", "");
        without(code, "one file without a package", "(?m)^\\s*package ");
        without(code, "rule 2", "->|::|\\bnew \\w+\\([^)]*\\) \\{");
        without(code, "rule 4", "import (?!java\\.util\\.(Arrays|ArrayList|List|Iterator);)");
        without(code, "rule 4", "\\w+Exact\\(");
        without(code, "rule 6", "\\b(throw|throws|try|catch|finally|synchronized|assert|equals|hashCode|toString)\\b");
        without(code, "rule 9", "while \\(true\\)|for \\(;;\\)");
        without(code, "rule 13", "\\b(Random|Thread|File|nanoTime|currentTimeMillis|getenv|getProperty)\\b");
        lengths(Files.readAllLines(file));
        CHECKS.holds("the text has characters 0 to 127 alone", text.chars().allMatch(c -> c < 128));
        CHECKS.end();
    }
}
