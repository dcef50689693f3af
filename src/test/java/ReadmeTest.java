import java.io.IOException;
import java.nio.file.Files;
import java.nio.file.Path;
import java.util.regex.Matcher;
import java.util.regex.Pattern;

/** The example in README.md answers what stands behind its calls. Run it where README.md is. */
public final class ReadmeTest {
    private static final Pattern CALL = Pattern.compile("bench\\.(\\w+)\\(([^)]*)\\);\\s*// (throws )?([^: ]+)(:.*)?");
    private static final int FEWEST_CALLS = 20;

    public static void main(String[] args) throws IOException {
        Checks checks = new Checks();
        Bench bench = new Bench();
        int calls = 0;
        for (String row : Files.readAllLines(Path.of("README.md"))) {
            if (!row.startsWith("bench.")) {
                continue;
            }
            Matcher call = CALL.matcher(row);
            if (call.matches()) {
                String asked = (call.group(1) + " " + call.group(2).replace(",", "")).strip();
                checks.due(row, bench.ask(asked), call.group(4));
            } else {
                checks.due(row, "no answer", "an answer behind the call");
            }
            calls++;
        }
        checks.due("the number of calls in README.md", calls >= FEWEST_CALLS, true);
        checks.finish("ReadmeTest");
    }
}
