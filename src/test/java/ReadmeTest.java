import java.io.IOException;
import java.nio.file.DirectoryStream;
import java.nio.file.Files;
import java.nio.file.Path;
import java.util.Map;
import java.util.regex.Matcher;
import java.util.regex.Pattern;

/** README.md: its example answers what it says there, and every call and every test is named. */
public final class ReadmeTest {
    private static final Path README = Path.of("README.md");
    private static final Pattern EXAMPLE = Pattern.compile("```java\n(.*?)```", Pattern.DOTALL);
    private static final Pattern TAPE = Pattern.compile("\"(w[^\"]*)\"");
    private static final Pattern CALL = Pattern.compile("x\\.(\\w+)\\(([-0-9, ]*)\\);\\s+// (-?\\w+)");
    private static final Map<String, Integer> NAMED = Map.of(
        "NONE", TabTrails.NONE, "BAD", TabTrails.BAD, "STATE", TabTrails.STATE, "FULL", TabTrails.FULL);

    private static final Checks checks = new Checks();
    private static final Calls calls = new Calls(TabTrails.class);

    private ReadmeTest() { }

    private static int[] numbers(String told) {
        String[] parts = told.isBlank() ? new String[0] : told.split(",");
        int[] values = new int[parts.length];
        for (int i = 0; i < parts.length; i++) {
            values[i] = Integer.parseInt(parts[i].trim());
        }
        return values;
    }

    private static void example(String text) {
        Matcher example = EXAMPLE.matcher(text);
        Matcher tape = TAPE.matcher(text);
        if (!example.find() || !tape.find()) {
            throw new IllegalStateException("README.md has no example");
        }
        TabTrails x = new TabTrails();
        Checks.feed(x, tape.group(1));
        int made = 0;
        for (String line : example.group(1).split("\n")) {
            Matcher call = CALL.matcher(line);
            if (call.find()) {
                String answer = call.group(3);
                int want = NAMED.containsKey(answer) ? NAMED.get(answer) : Integer.parseInt(answer);
                checks.due("README.md: " + line, calls.make(x, call.group(1), numbers(call.group(2))), want);
                made++;
            }
        }
        // Every line of the example but those that make the object and feed the tape.
        checks.due("calls of the example", made, example.group(1).split("\n").length - 4);
    }

    private static void callsAreNamed(String text) {
        for (String name : Calls.NAMES) {
            Matcher named = Pattern.compile("`" + name + "\\(([^)]*)\\)`").matcher(text);
            int takes = -1;
            while (named.find() && takes != calls.takes(name)) {
                takes = named.group(1).isEmpty() ? 0 : named.group(1).split(",").length;
            }
            checks.due("how many numbers " + name + "() takes by README.md", takes, calls.takes(name));
        }
    }

    private static void testsAreNamed(String text) throws IOException {
        try (DirectoryStream<Path> tests = Files.newDirectoryStream(Path.of("src/test/java"), "*Test.java")) {
            for (Path test : tests) {
                String name = test.getFileName().toString().replace(".java", "");
                checks.yes("README.md names " + name, text.contains("`" + name + "`"));
            }
        }
    }

    private static void constantsAreTold(String text) {
        for (Map.Entry<String, Integer> constant : NAMED.entrySet()) {
            checks.yes("README.md tells " + constant, text.contains("`" + constant.getKey() + "` " + constant.getValue()));
        }
    }

    public static void main(String[] args) throws IOException {
        String text = Files.readString(README);
        example(text);
        callsAreNamed(text);
        constantsAreTold(text);
        testsAreNamed(text);
        checks.end();
    }
}
