import java.io.IOException;
import java.lang.reflect.Method;
import java.lang.reflect.Modifier;
import java.nio.file.Files;
import java.nio.file.Path;
import java.util.List;
import java.util.regex.Matcher;
import java.util.regex.Pattern;
import java.util.stream.Collectors;
import java.util.stream.Stream;

/** README.md says what holds: its calls answer what it says, every call and every test is named. */
public final class ReadmeTest {
    private static final Pattern CALL = Pattern.compile("x\\.(\\w+\\([^)]*\\));\\s+// (-?\\d+|NONE)(\\b.*)?");
    private static final int FEWEST_CALLS = 30;

    public static void main(String[] args) throws IOException {
        String page = Files.readString(Path.of("README.md"));
        Script script = new Script("ReadmeTest");
        script.test(0, "the calls of README.md", callsOf(page));
        script.mustHold("every call is named", namesAllCalls(page));
        script.mustHold("every test is named", namesAllTests(page));
        script.end();
    }

    /** Each line of the example but the first, as a line of a script. */
    private static String[] callsOf(String page) {
        int from = page.indexOf("```java\n");
        int to = page.indexOf("```", from + 3);
        if (from < 0 || to < 0) {
            throw new IllegalStateException("README.md has no example");
        }
        List<String> lines = page.substring(from, to).lines().skip(2)
            .filter(line -> !line.isBlank()).map(ReadmeTest::scriptLine).collect(Collectors.toList());
        if (lines.size() < FEWEST_CALLS) {
            throw new IllegalStateException("README.md has few calls");
        }
        return lines.toArray(new String[0]);
    }

    private static String scriptLine(String line) {
        Matcher call = CALL.matcher(line);
        if (!call.matches()) {
            throw new IllegalStateException("no call and answer: " + line);
        }
        return call.group(1) + " = " + call.group(2);
    }

    private static boolean namesAllCalls(String page) {
        for (Method m : StepWorks.class.getDeclaredMethods()) {
            String named = "`" + m.getName() + "(";
            if (Modifier.isPublic(m.getModifiers()) && !page.contains(named)) {
                System.out.println("README.md does not name " + m.getName());
                return false;
            }
        }
        return true;
    }

    private static boolean namesAllTests(String page) throws IOException {
        try (Stream<Path> files = Files.list(Path.of("src/test/java"))) {
            for (Path file : files.collect(Collectors.toList())) {
                String name = file.getFileName().toString().replace(".java", "");
                if (!page.contains("`" + name + "`")) {
                    System.out.println("README.md does not name " + name);
                    return false;
                }
            }
        }
        return true;
    }
}
