import java.io.IOException;
import java.nio.file.Files;
import java.nio.file.Path;
import java.util.Arrays;
import java.util.LinkedHashMap;
import java.util.Map;
import java.util.function.Consumer;

/**
 * The sentences of ../shared/DOC.md. A test bears the words of the document that it is about as its name: they
 * must stand in its section, just once; and at the end every word of a section must stand in the name of a test.
 */
final class Sentences {
    private final Checks checks = new Checks();
    private final Map<String, String> sections = new LinkedHashMap<>();
    private final Map<String, boolean[]> named = new LinkedHashMap<>();
    private String section = "";
    private int tests = 0;

    Sentences(Path document) throws IOException {
        String title = "";
        StringBuilder words = new StringBuilder();
        boolean code = false;
        for (String line : Files.readAllLines(document)) {
            if (line.startsWith("```")) {
                code = !code;
            } else if (line.startsWith("#")) {
                keep(title, words.toString());
                title = line.replaceFirst("#+ ", "");
                words.setLength(0);
            } else if (!code && !isSignature(line) && !line.startsWith("----")) {
                words.append(line).append('\n');
            }
        }
        keep(title, words.toString());
    }

    /** The signatures are for FaceTest. */
    private static boolean isSignature(String line) {
        return line.matches("`(\\w+ )?\\w+\\([^`]*\\)`");
    }

    private void keep(String title, String words) {
        sections.put(title, words);
        named.put(title, new boolean[words.length()]);
    }

    /** The section whose sentences the next tests are about. */
    void in(String title) {
        checks.holds("the document has a section \"" + title + "\"", sections.containsKey(title));
        section = title;
    }

    private void name(String words) {
        String text = sections.getOrDefault(section, "");
        int at = text.indexOf(words);
        String what = section + " \"" + words + "\": ";
        checks.holds(what + "these words stand in the section", at >= 0);
        checks.holds(what + "they stand there once", at == text.lastIndexOf(words));
        if (at >= 0) {
            boolean[] letters = named.get(section);
            boolean first = true;
            for (int i = at; i < at + words.length(); i++) {
                first &= !letters[i];
                letters[i] = true;
            }
            checks.holds(what + "they are the name of no other test", first);
        }
    }

    /** A test of one run of calls. */
    void test(String words, String... calls) {
        test(words, run -> run.due(calls));
    }

    void test(String words, Consumer<Run> body) {
        name(words);
        tests++;
        Run run = new Run(checks, section + " \"" + words + "\": ");
        body.accept(run);
        run.end();
        checks.holds(section + " \"" + words + "\": the test looks at an answer", run.asked() > 0);
    }

    /** Words by which nothing is due: titles, summaries, what is left free. */
    void nothingDue(String... words) {
        Arrays.stream(words).forEach(this::name);
    }

    void nothingDueIn(String title) {
        in(title);
        Arrays.fill(named.getOrDefault(title, new boolean[0]), true);
    }

    void end() {
        sections.forEach((title, text) -> {
            StringBuilder left = new StringBuilder();
            for (int i = 0; i < text.length(); i++) {
                left.append(named.get(title)[i] ? ' ' : text.charAt(i));
            }
            String words = left.toString().replaceAll("\\s+", " ");
            checks.holds(title + ": no test is named by: " + words, !words.matches(".*\\w.*"));
        });
        System.out.println(tests + " tests, each named by words of the document");
        checks.end();
    }
}
