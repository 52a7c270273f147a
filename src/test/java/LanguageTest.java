import java.io.IOException;
import java.lang.reflect.Constructor;
import java.lang.reflect.Field;
import java.lang.reflect.Method;
import java.lang.reflect.Modifier;
import java.nio.file.Files;
import java.nio.file.Path;
import java.util.ArrayList;
import java.util.List;
import java.util.Set;
import java.util.TreeSet;
import java.util.regex.Matcher;
import java.util.regex.Pattern;

/**
 * Rules of ../shared/LANGUAGE.md that the text of the class or its face can be asked for; run from the project's
 * folder. What the rules leave is never told as a fault, so a later text of the class may use all of it.
 */
public final class LanguageTest {
    private static final Path FILE = Path.of("src/main/java/PieceSets.java");
    private static final Set<String> LIBRARY = Set.of("Arrays.copyOf", "Arrays.copyOfRange", "Arrays.fill",
        "System.arraycopy", "List.of");
    private static final Checks CHECKS = new Checks();

    private static void without(String code, String rule, String pattern) {
        CHECKS.holds(rule + ": there is no " + pattern, !Pattern.compile(pattern).matcher(code).find());
    }

    /** The text without comments, and without what stands in its Strings. */
    private static String code(String text) {
        return text.replaceAll("(?s)/\\*.*?\\*/", "").replaceAll("//.*", "").replaceAll("\"[^\"\n]*\"", "\"\"");
    }

    private static void words(String code) {
        without(code, "one file without a package", "(?m)^\\s*package ");
        without(code, "rule 2", "(?m)^(?!\\s*(case|default)\\b).*->|::|\\bnew \\w+\\([^)]*\\) \\{");
        without(code, "rule 5", "\\bstatic \\{");
        without(code, "rule 6", "\\b(throw|throws|try|catch|finally|synchronized|assert)\\b");
        without(code, "rule 6", "\\b(boolean equals|int hashCode|String toString)\\(");
        without(code, "rule 9", "while \\(true\\)|for \\(;;\\)");
        without(code, "rule 13", "\\b(Random|Thread|File|nanoTime|currentTimeMillis|getenv|getProperty)\\b");
    }

    private static void library(String code) {
        without(code, "rule 4", "import (?!java\\.util\\.(Arrays|ArrayList|List|Iterator);)");
        Set<String> own = new TreeSet<>();
        for (Class<?> one : classes()) {
            own.add(one.getSimpleName());
        }
        Matcher call = Pattern.compile("(?<![\\w.])([A-Z]\\w*)\\.([a-z]\\w*)\\(").matcher(code);
        while (call.find()) {
            String name = call.group(1) + "." + call.group(2);
            boolean number = Set.of("Math", "Integer", "Long").contains(call.group(1)) && !name.endsWith("Exact");
            CHECKS.holds("rule 4: " + name + " is in the library", number || LIBRARY.contains(name)
                || own.contains(call.group(1)));
        }
    }

    private static void lengths(List<String> lines) {
        int begins = -1;
        for (int i = 0; i < lines.size(); i++) {
            String line = lines.get(i);
            if (line.matches(" {4,8}[a-z].*\\) \\{")) {
                begins = i;
            } else if (line.matches(" {4,8}\\}") && begins >= 0) {
                CHECKS.holds("rule 11: the method of line " + (begins + 1) + " is short", i - begins <= 60);
                begins = -1;
            }
        }
    }

    private static List<Class<?>> classes() {
        List<Class<?>> all = new ArrayList<>();
        all.add(PieceSets.class);
        for (int i = 0; i < all.size(); i++) {
            all.addAll(List.of(all.get(i).getDeclaredClasses()));
        }
        return all;
    }

    private static void counts() {
        CHECKS.holds("rule 11: the file has at most some twelve classes", classes().size() <= 13);
        for (Class<?> one : classes()) {
            int held = 0;
            for (Field field : one.getDeclaredFields()) {
                boolean fixed = Modifier.isStatic(field.getModifiers());
                held += fixed ? 0 : 1;
                CHECKS.holds("rule 5: " + field + " is final", !fixed || Modifier.isFinal(field.getModifiers()));
            }
            CHECKS.holds("rule 11: " + one + " has at most some twenty fields", held <= 20);
            for (Method method : one.getDeclaredMethods()) {
                CHECKS.holds("rule 11: " + method + " takes at most seven", method.getParameterCount() <= 7);
            }
            for (Constructor<?> made : one.getDeclaredConstructors()) {
                CHECKS.holds("rule 11: " + made + " takes at most seven", made.getParameterCount() <= 7);
            }
        }
    }

    public static void main(String[] args) throws IOException {
        String text = Files.readString(FILE);
        String code = code(text);
        words(code);
        library(code);
        lengths(Files.readAllLines(FILE));
        counts();
        CHECKS.holds("the text has characters 0 to 127 alone", text.chars().allMatch(c -> c < 128));
        CHECKS.end();
    }
}
