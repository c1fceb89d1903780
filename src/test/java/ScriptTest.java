import java.io.IOException;
import java.io.UncheckedIOException;
import java.nio.file.Files;
import java.nio.file.Path;
import java.util.ArrayList;
import java.util.List;
import java.util.Set;
import java.util.stream.Stream;

/**
 * Runs the scripts under src/test/runs and src/test/edges. A line is a call and the answer that is due, as
 * "addPerson 3 -> 0"; an argument with bars, as "4|9", stands for one call with each of them, and "8* setDuty % true" for
 * eight calls, with 0 to 7 for the percent sign. A line "new", or one that begins with "== " and names a scene, starts
 * with a new object; one that begins with a number sign is a comment. A call that throws, and one that only asks, has to
 * leave the object as it was.
 */
final class ScriptTest {
    static final Path RUNS = Path.of("src", "test", "runs");
    static final Path EDGES = Path.of("src", "test", "edges");

    private static final Set<String> CHANGES = Set.of("addPerson", "setDuty", "addStep", "need", "condition",
            "setFallback", "setReading", "start", "close", "begin", "finish", "handOver", "undo", "pass");

    // behind so many calls there is no room left for the calls that look at the whole object
    private static final int MOST_CHANGES = 200;

    private final String name;
    private final List<String> changes = new ArrayList<>();
    private Subject subject = new Subject();
    private String scene = "";
    private String unchanged;

    private ScriptTest(String name) {
        this.name = name;
    }

    static void all() {
        for (Path folder : List.of(RUNS, EDGES)) {
            for (Path file : files(folder)) {
                new ScriptTest(file.getFileName().toString()).run(lines(file));
            }
        }
    }

    static List<Path> files(Path folder) {
        try (Stream<Path> files = Files.list(folder)) {
            return files.sorted().toList();
        } catch (IOException exception) {
            throw new UncheckedIOException(exception);
        }
    }

    static List<String> lines(Path file) {
        try {
            return Files.readAllLines(file);
        } catch (IOException exception) {
            throw new UncheckedIOException(exception);
        }
    }

    private void run(List<String> lines) {
        for (int index = 0; index < lines.size(); index++) {
            String line = lines.get(index).strip();
            if (line.equals("new") || line.startsWith("== ")) {
                startScene(line);
            } else if (!line.isEmpty() && !line.startsWith("#")) {
                runLine(name + ":" + (index + 1) + scene + " ", line);
            }
        }
    }

    private void startScene(String line) {
        scene = line.startsWith("== ") ? " [" + line.substring(3) + "]" : "";
        changes.clear();
        unchanged = null;
        subject = new Subject();
    }

    private void runLine(String place, String line) {
        int star = line.indexOf("* ");
        if (star < 0) {
            runCalls(place, line);
            return;
        }
        int times = Integer.parseInt(line.substring(0, star));
        for (int time = 0; time < times; time++) {
            runCalls(place, line.substring(star + 2).replace("%", "" + time));
        }
    }

    private void runCalls(String place, String line) {
        int arrow = line.indexOf(" -> ");
        String due = arrow < 0 ? null : line.substring(arrow + 4);
        for (String call : alternatives(arrow < 0 ? line : line.substring(0, arrow))) {
            runCall(place, call, due);
        }
    }

    static List<String> alternatives(String call) {
        List<String> found = List.of("");
        for (String word : call.split(" ")) {
            List<String> longer = new ArrayList<>();
            for (String start : found) {
                for (String choice : word.split("\\|")) {
                    longer.add(start.isEmpty() ? choice : start + " " + choice);
                }
            }
            found = longer;
        }
        return found;
    }

    /** A call without a due answer is part of a scene, and must not throw. */
    private void runCall(String place, String call, String due) {
        String got = subject.answer(call);
        if (due == null) {
            Check.same(place + call + " throws", false, got.startsWith("throws."));
        } else {
            Check.same(place + call, due, got);
        }
        if (CHANGES.contains(call.split(" ")[0]) && !got.startsWith("throws.")) {
            changes.add(call);
            unchanged = null;
        } else if (changes.size() <= MOST_CHANGES) {
            checkThatNothingChanges(place, call);
        }
    }

    private void checkThatNothingChanges(String place, String call) {
        if (unchanged == null) {
            unchanged = whole("");
        }
        Check.same(place + call + " changes nothing", unchanged, whole(call));
    }

    /** What the changes, and one more call behind them, leave: seen at once, and seen when the next run begins. */
    private String whole(String more) {
        return replay(more).snapshot() + " later: " + replay(more).nextRun();
    }

    private Subject replay(String more) {
        Subject again = new Subject();
        for (String call : changes) {
            again.answer(call);
        }
        if (!more.isEmpty()) {
            again.answer(more);
        }
        return again;
    }
}
