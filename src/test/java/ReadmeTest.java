import java.nio.file.Path;
import java.util.HashMap;
import java.util.List;
import java.util.Map;
import java.util.regex.Matcher;
import java.util.regex.Pattern;

/** Makes the calls of the example in README.md; the answer of each stands behind it, up to a colon. */
final class ReadmeTest {
    private static final Path README = Path.of("README.md");
    private static final int LEAST_CALLS = 30;
    private static final Pattern CALL =
            Pattern.compile("(?:int (\\w+) = )?runner\\.(\\w+)\\((.*)\\); +// ([^:]+)(?:: .*)?");

    private final Subject subject = new Subject();
    private final Map<String, String> names = new HashMap<>();

    private ReadmeTest() {
    }

    static void all() {
        List<String> lines = ScriptTest.lines(README);
        int first = lines.indexOf("```java") + 1;
        int end = first + lines.subList(first, lines.size()).indexOf("```");
        ReadmeTest test = new ReadmeTest();
        int calls = 0;
        for (String line : lines.subList(first, end)) {
            if (!line.isEmpty() && !line.equals("Runbooker runner = new Runbooker();")) {
                test.runLine(line);
                calls++;
            }
        }
        Check.same("README.md has an example", true, calls >= LEAST_CALLS);
    }

    private void runLine(String line) {
        Matcher found = CALL.matcher(line);
        if (!found.matches()) {
            Check.broken("README.md: this is no call with its answer: " + line);
            return;
        }
        String got = subject.answer(found.group(2) + arguments(found.group(3)));
        Check.same("README.md: " + line, found.group(4).replace("'", ""), got);
        if (found.group(1) != null) {
            names.put(found.group(1), got);
        }
    }

    private String arguments(String told) {
        StringBuilder text = new StringBuilder();
        for (String word : told.isEmpty() ? new String[0] : told.split(", ")) {
            text.append(' ').append(names.getOrDefault(word, word.replace("'", "")));
        }
        return text.toString();
    }
}
