import java.io.IOException;
import java.nio.file.Files;
import java.nio.file.Path;
import java.util.regex.Matcher;
import java.util.regex.Pattern;

/** The calls that README.md shows, each with the answer in its comment; run from the project's folder. */
public final class ReadmeTest {
    private static final Pattern CALL = Pattern.compile("(?m)^x\\.(\\w+)\\(([^)]*)\\); +// (-?\\d+)[:;,.]");

    public static void main(String[] args) throws IOException {
        Checks checks = new Checks();
        String text = Files.readString(Path.of("README.md"));
        Run run = new Run(checks, "README.md: ");
        Matcher call = CALL.matcher(text);
        while (call.find()) {
            String arguments = call.group(2).isEmpty() ? "" : " " + call.group(2).replace(", ", " ");
            run.due(call.group(1) + arguments + " = " + call.group(3));
        }
        run.end();
        checks.due("calls with an answer", run.asked(), text.split("\nx\\.").length - 1);
        checks.end();
    }
}
