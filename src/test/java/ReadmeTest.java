import java.io.IOException;
import java.nio.file.Files;
import java.nio.file.Path;
import java.util.ArrayList;
import java.util.List;

/** The example of README.md: each of its calls answers what the line says behind it. */
public final class ReadmeTest {
    private static final Path README = Path.of("README.md");
    private static final String OBJECT = "costs.";

    public static void main(String[] args) throws IOException {
        Check check = new Check();
        List<String> example = example();
        StorageCosts costs = new StorageCosts();
        int at = 0;
        at = said(check, example, at, "store(0, 7, 5L, 30000);", costs.store(0, 7, 5L, 30000));
        at = said(check, example, at, "begin();", costs.begin());
        at = said(check, example, at, "open();", costs.open());
        at = said(check, example, at, "load(0, 7);", costs.load(0, 7));
        at = said(check, example, at, "store(0, 7, 0L, 30000);", costs.store(0, 7, 0L, 30000));
        at = said(check, example, at, "count(0);", costs.count(0));
        at = said(check, example, at, "close(false);", costs.close(false));
        at = said(check, example, at, "held(0, 7, false);", costs.held(0, 7, false));
        at = said(check, example, at, "touched(0, 7);", costs.touched(0, 7));
        check.due("calls in the example", at, example.size());
        check.end();
    }

    private static int said(Check check, List<String> example, int at, String call, Object answer) {
        String line = at < example.size() ? example.get(at) : "no line";
        check.due("line " + at + " of the example: call and answer", call + " // " + answer, callAndAnswer(line));
        return at + 1;
    }

    /** The line without the words that tell what its answer means. */
    private static String callAndAnswer(String line) {
        return line.replaceAll("\\s+//", " //").replaceAll("(// [^:,]*)[:,].*", "$1");
    }

    private static List<String> example() throws IOException {
        List<String> calls = new ArrayList<>();
        for (String line : Files.readAllLines(README)) {
            if (line.startsWith(OBJECT)) {
                calls.add(line.substring(OBJECT.length()));
            }
        }
        return calls;
    }
}
