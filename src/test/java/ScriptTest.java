import java.io.IOException;
import java.io.UncheckedIOException;
import java.nio.file.Files;
import java.nio.file.Path;
import java.util.ArrayList;
import java.util.List;
import java.util.stream.Stream;

/**
 * Runs the scripts under src/test/runs. A line is a call and the answer that is due, as "addPerson 3 -> 0"; an argument
 * with bars, as "4|9", stands for one call with each of them. A line "new" starts with a new object, and one that begins
 * with a number sign is a comment. A call that throws has to leave the object as it was.
 */
final class ScriptTest {
    private static final Path RUNS = Path.of("src", "test", "runs");

    private final String name;
    private final List<String> calls = new ArrayList<>();
    private Subject subject = new Subject();

    private ScriptTest(String name) {
        this.name = name;
    }

    static void all() {
        for (Path file : files()) {
            new ScriptTest(file.getFileName().toString()).run(lines(file));
        }
    }

    private static List<Path> files() {
        try (Stream<Path> files = Files.list(RUNS)) {
            return files.sorted().toList();
        } catch (IOException exception) {
            throw new UncheckedIOException(exception);
        }
    }

    private static List<String> lines(Path file) {
        try {
            return Files.readAllLines(file);
        } catch (IOException exception) {
            throw new UncheckedIOException(exception);
        }
    }

    private void run(List<String> lines) {
        for (int index = 0; index < lines.size(); index++) {
            String line = lines.get(index).strip();
            if (line.equals("new")) {
                calls.clear();
                subject = new Subject();
            } else if (!line.isEmpty() && !line.startsWith("#")) {
                runLine(name + ":" + (index + 1) + " ", line);
            }
        }
    }

    private void runLine(String place, String line) {
        int arrow = line.indexOf(" -> ");
        if (arrow < 0) {
            runCall(place, line, null);
            return;
        }
        String due = line.substring(arrow + 4);
        for (String call : alternatives(line.substring(0, arrow))) {
            runCall(place, call, due);
        }
    }

    private static List<String> alternatives(String call) {
        List<String> found = List.of("");
        for (String word : call.split(" ")) {
            List<String> longer = new ArrayList<>();
            for (String start : found) {
                for (String choice : word.split("\\|")) {
                    longer.add(start.isEmpty() ? choice : start + " " + choice);
                }
            }
            found = longer;
        }
        return found;
    }

    /** A call without a due answer is part of a scene, and must not throw. */
    private void runCall(String place, String call, String due) {
        String got = subject.answer(call);
        if (due == null) {
            Check.same(place + call + " throws", false, got.startsWith("throws."));
        } else {
            Check.same(place + call, due, got);
        }
        if (got.startsWith("throws.")) {
            Check.same(place + call + " changes nothing", replay("").snapshot(), replay(call).snapshot());
        } else {
            calls.add(call);
        }
    }

    /** The run again on a new object, with one more call behind it. */
    private Subject replay(String more) {
        Subject again = new Subject();
        for (String call : calls) {
            again.answer(call);
        }
        if (!more.isEmpty()) {
            again.answer(more);
        }
        return again;
    }
}
