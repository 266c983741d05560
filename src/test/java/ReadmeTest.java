import java.io.IOException;
import java.nio.file.Files;
import java.nio.file.Path;
import java.util.ArrayList;
import java.util.List;

/**
 * The example of README.md answers what stands behind its lines. It is run from
 * the project's folder, where README.md is.
 */
public final class ReadmeTest {
    private static final Due d = new Due();

    /** The lines of the example with a call, which are told one by one. */
    private static List<String> lines;
    private static int told = 0;

    public static void main(String[] args) throws IOException {
        lines = exampleIn(Files.readAllLines(Path.of("README.md")));
        RightsLimit x = new RightsLimit();
        int title = x.title(3);
        line("x.title(3);", title);
        line("x.limit(title, 0, 2, 1);", x.limit(title, 0, 2, 1));
        line("x.ask(7, title, 0, 5, 100);", x.ask(7, title, 0, 5, 100));
        line("x.ask(8, title, 0, 5, 200);", x.ask(8, title, 0, 5, 200));
        line("x.why();", x.why());
        line("x.fee(3, 15);", x.fee(3, 15));
        int paid = x.ask(8, title, 0, 5, 300);
        line("x.ask(8, title, 0, 5, 300);", paid);
        line("x.request(paid, 7);", Due.request(x, paid, 7));
        line("x.renew(paid, 400);", x.renew(paid, 400));
        line("x.request(paid, 7);", Due.request(x, paid, 7));
        line("x.past(100 + 30 * 86400, 0);", Due.past(x, 100 + 30 * 86400, 0));
        d.due("lines of the example", lines.size(), told);
        d.finish();
    }

    /** The next line of the example makes this call and tells this answer. */
    private static void line(String call, long answer) {
        String line = told < lines.size() ? lines.get(told) : "";
        told++;
        boolean isSaid = line.contains(call) && line.contains("// " + answer + ":");
        d.due(call + " // " + answer + ": stands in README.md, not " + line, isSaid ? 1 : 0, 1);
    }

    private static List<String> exampleIn(List<String> readme) {
        List<String> calls = new ArrayList<>();
        boolean isInside = false;
        for (String line : readme) {
            if (line.startsWith("```")) {
                isInside = line.equals("```java");
            } else if (isInside && !line.contains("new RightsLimit()")) {
                calls.add(line);
            }
        }
        return calls;
    }
}
