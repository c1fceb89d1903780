import java.util.Random;

/** Walks of calls that are chosen by fixed seeds, on the class and on the model: both have to answer the same. */
final class WalkTest {
    private static final int WALKS = 1500;

    private static final String[] QUERIES = {
        "people", "steps", "clock", "isRunning", "ready", "isOver", "isStuck", "handoverEnd", "lastDone", "entries",
        "workedMinutes", "doneShare", "meanTries", "readingOf s", "isPaused r", "isOnDuty p", "hasRole p r", "workOf p",
        "nextStep p", "signAt e", "stepAt e", "personAt e", "minuteAt e", "doesGuardHold t", "guardReading t c",
        "stateOf t", "stateByLog t", "triesOf t", "triesByLog t", "isReady t", "whyNot t", "restOf t", "restBySweep t",
        "isSettled t", "workedOn t", "labelLength t", "labelAt t c", "stateOf t", "stateByLog t", "triesByLog t",
        "isReady t", "whyNot t", "isStuck", "lastDone"};

    private final Random random;
    private final Subject subject = new Subject();
    private final Model model = new Model();
    private final StringBuilder trail = new StringBuilder();
    private int calls = 0;
    private boolean isSame = true;

    private WalkTest(int seed) {
        random = new Random(seed);
    }

    static void all() {
        for (int seed = 0; seed < WALKS; seed++) {
            new WalkTest(seed).walk(seed);
        }
    }

    private void walk(int seed) {
        tellPeople();
        tellSteps();
        while (isSame && calls < Subject.MOST_CALLS - 4) {
            act();
            query();
        }
        Check.same("walk " + seed + " is the same in the class and in the model" + trail, true, isSame);
    }

    private void tellPeople() {
        int people = 1 + random.nextInt(8);
        for (int person = 0; person < people; person++) {
            call("addPerson " + (1 + random.nextInt(15)));
            call("setDuty " + person + " " + (random.nextInt(3) > 0));
        }
    }

    private void tellSteps() {
        int steps = 1 + random.nextInt(random.nextBoolean() ? 16 : 5);
        for (int step = 0; step < steps; step++) {
            addStep();
        }
        for (int count = random.nextInt(2 * steps + 1); count > 0; count--) {
            tellPlan();
        }
    }

    private void addStep() {
        int length = random.nextInt(4) == 0 ? 1 + random.nextInt(60) : 1 + random.nextInt(5);
        call("addStep " + random.nextInt(4) + " " + length + " " + (1 + random.nextInt(3)) + " "
                + (random.nextBoolean() ? 'a' : 'o') + " " + (random.nextInt(6) > 0));
    }

    private void tellPlan() {
        switch (random.nextInt(3)) {
            case 0: call("need " + step() + " " + step()); break;
            case 1: call("setFallback " + step() + " " + step()); break;
            default: call("condition " + step() + " " + random.nextInt(6) + " " + "<>=".charAt(random.nextInt(3)) + " "
                    + (random.nextInt(5) - 2));
        }
    }

    private void act() {
        if (!model.answer("isRunning").equals("true") && random.nextInt(3) > 0) {
            call("start");
        } else if (random.nextInt(12) == 0) {
            tellAny();
        } else {
            work();
        }
    }

    private void tellAny() {
        switch (random.nextInt(9)) {
            case 0: call("addPerson " + random.nextInt(18)); break;
            case 1: call("addStep " + (random.nextInt(6) - 1) + " " + (random.nextInt(64) - 1) + " " + random.nextInt(5)
                    + " " + "aob".charAt(random.nextInt(3)) + " true"); break;
            case 2: call("condition " + step() + " " + (random.nextInt(8) - 1) + " " + "<>=?".charAt(random.nextInt(4))
                    + " " + (random.nextInt(2400) - 1200)); break;
            case 3: call("setReading " + (random.nextInt(8) - 1) + " " + (random.nextInt(2400) - 1200)); break;
            case 4: call("start"); break;
            case 5: call("close"); break;
            case 6: call("pass " + (random.nextInt(260) - 5)); break;
            case 7: addStep(); break;
            default: tellPlan();
        }
    }

    private void work() {
        int person = person();
        switch (random.nextInt(16)) {
            case 0: call("setDuty " + person + " " + (random.nextInt(4) > 0)); break;
            case 1: call("setReading " + random.nextInt(6) + " " + (random.nextInt(5) - 2)); break;
            case 2: call("handOver " + person + " " + person()); break;
            case 3: call("undo " + (random.nextBoolean() ? step() : number(model.answer("lastDone"), step()))); break;
            case 4: call("close"); break;
            case 5: call("begin " + person + " " + step()); break;
            case 6: case 7: case 8: call("pass " + (1 + random.nextInt(6))); break;
            case 9: case 10: case 11: call("finish " + person + " " + (random.nextInt(3) > 0)); break;
            default: call("begin " + person + " " + number(model.answer("nextStep " + person), step()));
        }
    }

    private void query() {
        String[] words = QUERIES[random.nextInt(QUERIES.length)].split(" ");
        StringBuilder text = new StringBuilder(words[0]);
        for (int index = 1; index < words.length; index++) {
            text.append(' ').append(argument(words[index].charAt(0)));
        }
        call(text.toString());
    }

    private int argument(char kind) {
        switch (kind) {
            case 's': return random.nextInt(8) - 1;
            case 'r': return random.nextInt(6) - 1;
            case 'p': return person();
            case 'e': return random.nextInt(2 + Integer.parseInt(model.answer("entries"))) - 1;
            case 'c': return random.nextInt(4) - 1;
            default: return step();
        }
    }

    private int person() {
        return near(Integer.parseInt(model.answer("people")));
    }

    private int step() {
        return near(Integer.parseInt(model.answer("steps")));
    }

    /** A number below the count as a rule, and now and then one beside it. */
    private int near(int count) {
        return random.nextInt(20) == 0 ? (random.nextBoolean() ? -1 : count) : random.nextInt(Math.max(1, count));
    }

    private static int number(String answer, int other) {
        return answer.startsWith("throws.") ? other : Integer.parseInt(answer);
    }

    private void call(String call) {
        String due = model.answer(call);
        String got = subject.answer(call);
        calls++;
        if (isSame) {
            trail.append("\n  ").append(call).append(" -> ").append(due);
            if (!due.equals(got)) {
                isSame = false;
                trail.append(", but the class answers ").append(got);
            }
        }
    }
}
