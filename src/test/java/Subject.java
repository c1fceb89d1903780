import java.lang.reflect.InvocationTargetException;
import java.lang.reflect.Method;
import java.util.HashMap;
import java.util.Map;

/** A Runbooker that is called by texts, as "begin 0 3", and answers by texts, as "6" or "throws.IllegalStateException". */
final class Subject {
    static final int MOST_CALLS = 512;

    private static final int LAST_ENTRIES = 16;

    private static final Map<String, Method> METHODS = new HashMap<>();

    static {
        for (Method method : Runbooker.class.getDeclaredMethods()) {
            METHODS.put(method.getName(), method);
        }
    }

    private final Runbooker runner = new Runbooker();
    private int calls = 0;

    String answer(String call) {
        String[] words = call.split(" ");
        if (words[0].equals("log")) {
            return log(0);
        }
        if (words[0].equals("states")) {
            return states();
        }
        Method method = METHODS.get(words[0]);
        if (method == null || method.getParameterCount() != words.length - 1) {
            throw new IllegalArgumentException("no such call: " + call);
        }
        Object[] arguments = new Object[words.length - 1];
        for (int index = 0; index < arguments.length; index++) {
            arguments[index] = argument(words[index + 1], method.getParameterTypes()[index]);
        }
        return invoke(method, arguments);
    }

    private String invoke(Method method, Object[] arguments) {
        calls++;
        if (calls > MOST_CALLS) {
            throw new IllegalStateException("the test makes more calls than are promised");
        }
        try {
            return String.valueOf(method.invoke(runner, arguments));
        } catch (InvocationTargetException exception) {
            return "throws." + exception.getCause().getClass().getSimpleName();
        } catch (IllegalAccessException exception) {
            throw new IllegalStateException(exception);
        }
    }

    private static Object argument(String word, Class<?> type) {
        if (type == boolean.class) {
            return Boolean.valueOf(word);
        }
        if (type == char.class) {
            return word.startsWith("#") ? (char) Integer.parseInt(word.substring(1)) : word.charAt(0);
        }
        if (word.equals("MIN")) {
            return Integer.MIN_VALUE;
        }
        return word.equals("MAX") ? Integer.MAX_VALUE : Integer.parseInt(word);
    }

    /** The log from an entry on, an entry as sign, step, person and minute. */
    private String log(int first) {
        StringBuilder text = new StringBuilder();
        int entries = Integer.parseInt(answer("entries"));
        for (int entry = first; entry < entries; entry++) {
            text.append(entry == first ? "" : ", ").append(answer("signAt " + entry)).append(' ');
            text.append(answer("stepAt " + entry)).append(' ').append(answer("personAt " + entry)).append(' ');
            text.append(answer("minuteAt " + entry));
        }
        return text.toString();
    }

    /** The states of all steps, one behind the other; those found from the log behind them if they differ. */
    private String states() {
        StringBuilder told = new StringBuilder();
        StringBuilder found = new StringBuilder();
        int steps = Integer.parseInt(answer("steps"));
        for (int step = 0; step < steps; step++) {
            told.append(answer("stateOf " + step));
            found.append(answer("stateByLog " + step));
        }
        return told.compareTo(found) == 0 ? told.toString() : told + " but by the log " + found;
    }

    /** Nearly all that the object answers, to see whether two objects are in the same state. */
    String snapshot() {
        StringBuilder text = new StringBuilder();
        for (String call : "people steps clock isRunning isOver isStuck workedMinutes handoverEnd lastDone".split(" ")) {
            text.append(answer(call)).append(' ');
        }
        addAll(text, 6, "readingOf");
        addAll(text, 4, "isPaused");
        addAll(text, Integer.parseInt(answer("people")), "isOnDuty", "workOf", "hasRole %d 0", "hasRole %d 3");
        addAll(text, Integer.parseInt(answer("steps")), "labelLength", "restBySweep", "whyNot", "doesGuardHold",
                "stateOf", "triesOf", "workedOn", "guardReading %d 0", "guardReading %d 1");
        int entries = Integer.parseInt(answer("entries"));
        return text.append(entries).append(' ').append(log(Math.max(0, entries - LAST_ENTRIES))).toString();
    }

    /** What the next run begins with; it shows what is told of the steps, which another run hides. */
    String nextRun() {
        StringBuilder text = new StringBuilder();
        for (String call : "pass 240,close,start,states,ready,clock,workedMinutes".split(",")) {
            text.append(answer(call)).append(' ');
        }
        addAll(text, Integer.parseInt(answer("people")), "isOnDuty", "nextStep", "hasRole %d 1", "hasRole %d 2");
        addAll(text, Integer.parseInt(answer("steps")), "restOf", "whyNot", "labelAt %d 1", "labelAt %d 2",
                "labelAt %d 3");
        return text.toString();
    }

    private void addAll(StringBuilder text, int count, String... calls) {
        for (int number = 0; number < count; number++) {
            for (String call : calls) {
                text.append(answer(call.contains("%") ? String.format(call, number) : call + " " + number)).append(' ');
            }
        }
    }
}
