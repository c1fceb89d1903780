import java.nio.file.Path;
import java.util.ArrayList;
import java.util.LinkedHashMap;
import java.util.List;
import java.util.Map;
import java.util.TreeSet;
import java.util.regex.Matcher;
import java.util.regex.Pattern;

/**
 * Every promise of the document has its scenes under src/test/edges, and among them, for each exception that it names, a
 * call of its own method that throws it, and one that throws nothing. What the scenes say is checked by ScriptTest.
 */
final class EdgeTest {
    private static final Pattern PROMISE = Pattern.compile("## Promise (\\d+): (.+)");
    private static final Pattern THROWS = Pattern.compile("Throws `(\\w+)`.*");
    private static final String NEW_OBJECT = "A new object";

    private EdgeTest() {
    }

    static void all() {
        Map<String, List<String>> promises = promises();
        Check.same("the number of promises", 52, promises.size());
        for (Map.Entry<String, List<String>> promise : promises.entrySet()) {
            checkScenes(promise.getKey(), promise.getValue());
        }
        twoObjects();
    }

    /** The exceptions of each promise, by the name of the file that holds its scenes. */
    private static Map<String, List<String>> promises() {
        Map<String, List<String>> promises = new LinkedHashMap<>();
        List<String> exceptions = new ArrayList<>();
        for (String line : ScriptTest.lines(FaceTest.DOCUMENT)) {
            Matcher promise = PROMISE.matcher(line);
            Matcher thrown = THROWS.matcher(line);
            if (promise.matches()) {
                exceptions = new ArrayList<>();
                String name = promise.group(2).equals(NEW_OBJECT) ? "Runbooker" : promise.group(2);
                promises.put(String.format("%02d-%s", Integer.parseInt(promise.group(1)), name), exceptions);
            } else if (thrown.matches()) {
                exceptions.add(thrown.group(1));
            }
        }
        return promises;
    }

    private static void checkScenes(String file, List<String> exceptions) {
        Path path = ScriptTest.EDGES.resolve(file + ".txt");
        boolean isThere = ScriptTest.files(ScriptTest.EDGES).contains(path);
        Check.same(file + " has its scenes", true, isThere);
        if (!isThere) {
            return;
        }
        List<String> lines = ScriptTest.lines(path);
        checkTitles(file, lines);
        String name = file.substring(3);
        for (String exception : exceptions) {
            Check.same(file + " throws " + exception, true, answers(lines, name).contains("throws." + exception));
        }
        Check.same(file + " has an answer", true,
                name.equals("Runbooker") || answers(lines, name).stream().anyMatch(due -> !due.startsWith("throws.")));
    }

    private static void checkTitles(String file, List<String> lines) {
        List<String> titles = lines.stream().filter(line -> line.startsWith("== ")).toList();
        Check.same(file + " names each scene once", titles.size(), new TreeSet<>(titles).size());
        Check.same(file + " has a scene", true, !titles.isEmpty());
    }

    private static TreeSet<String> answers(List<String> lines, String method) {
        TreeSet<String> answers = new TreeSet<>();
        for (String line : lines) {
            int arrow = line.indexOf(" -> ");
            String call = arrow < 0 ? line : line.substring(0, arrow);
            if (List.of(call.split("[ |]")).contains(method)) {
                answers.add(arrow < 0 ? "" : line.substring(arrow + 4));
            }
        }
        return answers;
    }

    /** What is told to one object is not told to another one. */
    private static void twoObjects() {
        Subject first = new Subject();
        Subject second = new Subject();
        String empty = second.snapshot();
        for (String call : List.of("addPerson 15", "setDuty 0 true", "addStep 0 1 3 a true", "setReading 0 5", "start",
                "begin 0 0", "pass 2")) {
            first.answer(call);
        }
        Check.same("a second object stays as it was", empty, new Subject().snapshot());
        Check.same("the second object stays as it was", empty, second.snapshot());
        Check.same("the first object", "1", first.answer("triesOf 0"));
    }
}
