import java.io.IOException;
import java.nio.file.Files;
import java.nio.file.Path;
import java.util.regex.Matcher;
import java.util.regex.Pattern;

/** The example of README.md: each call on one house answers what stands behind it. */
public final class ReadmeTest {
    private static final Path README = Path.of(System.getProperty("edgecount.root", "."), "README.md");
    private static final Pattern CALL = Pattern.compile("house\\.(\\w+)\\((.*)\\); +// (throws \\w+|\"[^\"]*\"|[-\\w]+)(:.*)?");

    private ReadmeTest() {
    }

    public static void main(String[] args) throws IOException {
        Edgecount house = new Edgecount();
        boolean isInside = false;
        int calls = 0;
        for (String line : Files.readAllLines(README)) {
            if (line.startsWith("```")) {
                isInside = line.equals("```java");
            } else if (isInside && line.startsWith("house.")) {
                call(house, line);
                calls++;
            }
        }
        Calls.same("the example has calls", calls > 0, true);
        Calls.end();
    }

    private static void call(Edgecount house, String line) {
        Matcher call = CALL.matcher(line);
        if (!call.matches()) {
            Calls.same(line, "a line of another form", "a call and its answer");
            return;
        }
        String want = call.group(3).replace("\"", "").replace("throws ", "throws.");
        Calls.due(house, want, call.group(1), numbers(call.group(2)));
    }

    private static Object[] numbers(String written) {
        if (written.isEmpty()) {
            return new Object[0];
        }
        String[] parts = written.split(", ");
        Object[] numbers = new Object[parts.length];
        for (int i = 0; i < parts.length; i++) {
            numbers[i] = Integer.valueOf(parts[i]);
        }
        return numbers;
    }
}
