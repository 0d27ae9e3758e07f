import java.io.IOException;
import java.lang.reflect.Method;
import java.lang.reflect.Modifier;
import java.nio.charset.StandardCharsets;
import java.nio.file.Files;
import java.nio.file.Path;
import java.util.HashMap;
import java.util.List;
import java.util.Map;
import java.util.regex.Matcher;
import java.util.regex.Pattern;
import java.util.stream.Collectors;
import java.util.stream.Stream;

/** The example of README.md answers what it says, and README.md names every call and every test. */
public final class ReadmeTests {
    private static final Path README = Path.of("README.md");
    private static final Path TESTS = Path.of("src/test/java");
    private static final Pattern EXAMPLE = Pattern.compile("(?s)```java\n(.*?)```");
    private static final String FIRST_LINE = "KeptPaths paths = new KeptPaths();";
    private static final Pattern LINE =
        Pattern.compile("(?:int (\\w+) = )?paths\\.(\\w+)\\(([^()]*)\\); +// (-?\\d+|[A-Z]+)(?:: .*)?");

    public static void main(String[] args) throws IOException {
        String text = new String(Files.readAllBytes(README), StandardCharsets.UTF_8);
        Matcher found = EXAMPLE.matcher(text);
        if (found.find()) {
            example(found.group(1).split("\n"));
        } else {
            Runs.fault("README.md has no example");
        }
        namesEveryCall(text);
        namesEveryTest(text);
        Runs.finish();
    }

    private static void example(String[] lines) {
        if (!lines[0].equals(FIRST_LINE)) {
            Runs.fault("README.md: the example begins with " + lines[0]);
        }
        KeptPaths paths = new KeptPaths();
        Map<String, Integer> names = new HashMap<>();
        for (int i = 1; i < lines.length; i++) {
            Matcher line = LINE.matcher(lines[i]);
            if (line.matches()) {
                oneLine(line, paths, names);
            } else {
                Runs.fault("README.md: no call with its answer: " + lines[i]);
            }
        }
    }

    private static void oneLine(Matcher line, KeptPaths paths, Map<String, Integer> names) {
        String with = line.group(3);
        for (Map.Entry<String, Integer> known : names.entrySet()) {
            with = with.replaceAll("\\b" + known.getKey() + "\\b", known.getValue().toString());
        }
        Runs.Call call = Runs.Call.of(line.group(2) + "(" + with + ")");
        int answer = call.on(paths);
        if (!Runs.named(answer).equals(line.group(4))) {
            Runs.fault("README.md: " + line.group() + ": the class answers " + Runs.named(answer));
        }
        if (line.group(1) != null) {
            names.put(line.group(1), answer);
        }
    }

    private static void namesEveryCall(String text) {
        for (Method method : KeptPaths.class.getDeclaredMethods()) {
            boolean isNamed = text.contains("`" + method.getName() + "(");
            if (Modifier.isPublic(method.getModifiers()) && !isNamed) {
                Runs.fault("README.md does not name the call " + method.getName());
            }
        }
    }

    private static void namesEveryTest(String text) throws IOException {
        List<String> files;
        try (Stream<Path> listed = Files.list(TESTS)) {
            files = listed.map(file -> file.getFileName().toString()).sorted().collect(Collectors.toList());
        }
        for (String file : files) {
            if (!text.contains("- `" + file.replace(".java", "") + "`:")) {
                Runs.fault("README.md does not name the test " + file);
            }
        }
    }
}
