import java.util.ArrayDeque;
import java.util.ArrayList;
import java.util.Collection;
import java.util.Deque;
import java.util.List;
import java.util.Map;
import java.util.Set;
import java.util.TreeMap;
import java.util.TreeSet;
import java.util.function.BooleanSupplier;

/**
 * The document's words once more, written in another way than the class, so that both can be compared: objects point at
 * one another, and what a step is in a run is kept with the run.
 */
final class Model {
    private static final String MISSING = "throws.NoSuchElementException";
    private static final String ILLEGAL = "throws.IllegalArgumentException";
    private static final String BAD_STATE = "throws.IllegalStateException";
    private static final String UNSUPPORTED = "throws.UnsupportedOperationException";
    private static final String OUTSIDE = "throws.IndexOutOfBoundsException";

    private static final class Person {
        final int number;
        final Set<Integer> roles = new TreeSet<>();
        boolean duty;

        Person(int number) {
            this.number = number;
        }
    }

    private record Condition(int sensor, char sign, int bound) {
    }

    private static final class Step {
        final int number;
        int role;
        int length;
        int limit;
        char join;
        boolean reversible;
        final Set<Step> needs = new java.util.LinkedHashSet<>();
        final List<Condition> conditions = new ArrayList<>();
        Step fallback;

        Step(int number) {
            this.number = number;
        }
    }

    /** What a step is in a run. */
    private static final class Track {
        char state;
        int tries;
        int worked;
        Person worker;
        int[] seen;
    }

    private record Entry(char sign, int step, int person, int minute) {
    }

    private final List<Person> people = new ArrayList<>();
    private final List<Step> steps = new ArrayList<>();
    private final int[] readings = new int[6];
    private final Map<Step, Track> tracks = new java.util.HashMap<>();
    private final Deque<Step> done = new ArrayDeque<>();
    private final List<Entry> log = new ArrayList<>();
    private boolean running;
    private int clock;
    private long total;
    private Person giver;
    private Person taker;
    private int minutesLeft;

    String answer(String call) {
        String[] words = call.split(" ");
        int a = number(words, 1);
        int b = number(words, 2);
        switch (words[0]) {
            case "addPerson": return addPerson(a);
            case "setDuty": return setDuty(a, words[2].equals("true"));
            case "addStep": return addStep(a, b, number(words, 3), words[4].charAt(0), words[5].equals("true"));
            case "need": return need(a, b);
            case "condition": return condition(a, b, words[3].charAt(0), number(words, 4));
            case "setFallback": return setFallback(a, b);
            case "setReading": return setReading(a, b);
            case "start": return start();
            case "close": return close();
            case "begin": return begin(a, b);
            case "finish": return finish(a, words[2].equals("true"));
            case "handOver": return handOver(a, b);
            case "undo": return undo(a);
            case "pass": return pass(a);
            default: return query(words[0], a, b);
        }
    }

    private static int number(String[] words, int index) {
        if (index >= words.length || !words[index].matches("-?[0-9]+")) {
            return 0;
        }
        return Integer.parseInt(words[index]);
    }

    private String query(String name, int a, int b) {
        switch (name) {
            case "people": return "" + people.size();
            case "steps": return "" + steps.size();
            case "clock": return "" + clock;
            case "isRunning": return "" + running;
            case "ready": return "" + ready().size();
            case "isOver": return "" + over();
            case "isStuck": return "" + stuck();
            case "handoverEnd": return giver == null ? BAD_STATE : "" + (clock + minutesLeft);
            case "lastDone": return !running || done.isEmpty() ? BAD_STATE : "" + done.peek().number;
            case "entries": return "" + log.size();
            case "workedMinutes": return "" + total;
            case "doneShare": return !running ? BAD_STATE : "" + (float) done.size() / (float) steps.size();
            case "meanTries": return !running ? BAD_STATE : "" + (double) tries() / (double) steps.size();
            case "readingOf": return a < 0 || a > 5 ? ILLEGAL : "" + readings[a];
            case "isPaused": return a < 0 || a > 3 ? ILLEGAL : "" + paused(a);
            case "isOnDuty": case "hasRole": case "workOf": case "nextStep": return personQuery(name, a, b);
            case "signAt": case "stepAt": case "personAt": case "minuteAt": return entryQuery(name, a);
            default: return stepQuery(name, a, b);
        }
    }

    private String personQuery(String name, int number, int role) {
        if (number < 0 || number >= people.size()) {
            return MISSING;
        }
        Person person = people.get(number);
        switch (name) {
            case "isOnDuty": return "" + person.duty;
            case "hasRole": return role < 0 || role > 3 ? ILLEGAL : "" + person.roles.contains(role);
            case "workOf": return work(person) == null ? "-1" : "" + work(person).number;
            default: return next(person);
        }
    }

    private String entryQuery(String name, int number) {
        if (number < 0 || number >= log.size()) {
            return MISSING;
        }
        Entry entry = log.get(number);
        switch (name) {
            case "signAt": return "" + entry.sign;
            case "stepAt": return "" + entry.step;
            case "personAt": return "" + entry.person;
            default: return "" + entry.minute;
        }
    }

    private String stepQuery(String name, int number, int index) {
        if (number < 0 || number >= steps.size()) {
            return MISSING;
        }
        Step step = steps.get(number);
        Track track = tracks.get(step);
        String label = number + "" + "ABCD".charAt(step.role) + step.length + step.join;
        switch (name) {
            case "doesGuardHold": return "" + guarded(step);
            case "guardReading": return guardReading(step, index);
            case "stateOf": case "stateByLog": return track == null ? BAD_STATE : "" + track.state;
            case "triesOf": case "triesByLog": return track == null ? BAD_STATE : "" + track.tries;
            case "isReady": return "" + ready().contains(step);
            case "whyNot": return "" + whyNot(step);
            case "restOf": case "restBySweep": return "" + rest(step);
            case "isSettled": return "" + (running && settled(step));
            case "workedOn": return track == null || track.worker == null ? BAD_STATE : "" + track.worked;
            case "labelLength": return "" + label.length();
            case "labelAt": return index < 0 || index >= label.length() ? OUTSIDE : "" + label.charAt(index);
            default: throw new IllegalArgumentException(name);
        }
    }

    private static boolean isIn(int number, Collection<?> all) {
        return number >= 0 && number < all.size();
    }

    /** The first row whose condition applies tells the answer. */
    private static String firstOf(Object... rows) {
        for (int index = 0; index < rows.length; index += 2) {
            if (((BooleanSupplier) rows[index]).getAsBoolean()) {
                return (String) rows[index + 1];
            }
        }
        return null;
    }

    private static BooleanSupplier when(BooleanSupplier condition) {
        return condition;
    }

    private String addPerson(int roles) {
        if (roles <= 0 || roles >= 16) {
            return ILLEGAL;
        }
        if (people.size() == 8) {
            return BAD_STATE;
        }
        Person person = new Person(people.size());
        String bits = new StringBuilder(Integer.toBinaryString(roles)).reverse().toString();
        for (int role = 0; role < bits.length(); role++) {
            if (bits.charAt(role) == '1') {
                person.roles.add(role);
            }
        }
        people.add(person);
        return "" + person.number;
    }

    private String setDuty(int number, boolean duty) {
        if (!isIn(number, people)) {
            return MISSING;
        }
        Person person = people.get(number);
        if (work(person) != null || person == giver || person == taker) {
            return BAD_STATE;
        }
        String before = "" + person.duty;
        person.duty = duty;
        return before;
    }

    private String addStep(int role, int length, int limit, char join, boolean reversible) {
        String wrong = firstOf(
                when(() -> !List.of(0, 1, 2, 3).contains(role)), ILLEGAL,
                when(() -> length <= 0 || length > 60), ILLEGAL,
                when(() -> !List.of(1, 2, 3).contains(limit)), ILLEGAL,
                when(() -> "ao".indexOf(join) < 0), ILLEGAL,
                when(() -> running || steps.size() == 16), BAD_STATE);
        if (wrong != null) {
            return wrong;
        }
        Step step = new Step(steps.size());
        step.role = role;
        step.length = length;
        step.limit = limit;
        step.join = join;
        step.reversible = reversible;
        steps.add(step);
        return "" + step.number;
    }

    private String need(int number, int other) {
        String wrong = firstOf(
                when(() -> !isIn(number, steps) || !isIn(other, steps)), MISSING,
                when(() -> other >= number), ILLEGAL,
                when(() -> running || steps.get(number).needs.contains(steps.get(other))), BAD_STATE);
        if (wrong != null) {
            return wrong;
        }
        steps.get(number).needs.add(steps.get(other));
        return "" + steps.get(number).needs.size();
    }

    private String condition(int number, int sensor, char sign, int bound) {
        String wrong = firstOf(
                when(() -> !isIn(number, steps)), MISSING,
                when(() -> sensor < 0 || sensor > 5 || "<>=".indexOf(sign) < 0 || Math.abs(bound) > 999), ILLEGAL,
                when(() -> running || steps.get(number).conditions.size() == 2), BAD_STATE);
        if (wrong != null) {
            return wrong;
        }
        steps.get(number).conditions.add(new Condition(sensor, sign, bound));
        return "" + steps.get(number).conditions.size();
    }

    private String setFallback(int number, int other) {
        String wrong = firstOf(
                when(() -> !isIn(number, steps) || !isIn(other, steps)), MISSING,
                when(() -> other <= number), ILLEGAL,
                when(() -> isFallbackOfAnother(other, number)), ILLEGAL,
                when(() -> running), BAD_STATE);
        if (wrong != null) {
            return wrong;
        }
        Step step = steps.get(number);
        String before = step.fallback == null ? "-1" : "" + step.fallback.number;
        step.fallback = steps.get(other);
        return before;
    }

    private boolean isFallbackOfAnother(int other, int number) {
        return steps.stream().anyMatch(step -> step.number != number && step.fallback == steps.get(other));
    }

    private String setReading(int sensor, int reading) {
        if (sensor < 0 || sensor > 5 || Math.abs(reading) > 999) {
            return ILLEGAL;
        }
        String before = "" + readings[sensor];
        readings[sensor] = reading;
        return before;
    }

    private String start() {
        if (running || steps.isEmpty()) {
            return BAD_STATE;
        }
        running = true;
        log.clear();
        done.clear();
        tracks.clear();
        for (Step step : steps) {
            tracks.put(step, new Track());
            tracks.get(step).state = 'w';
        }
        for (Step step : steps) {
            if (step.fallback != null) {
                tracks.get(step.fallback).state = 'o';
            }
        }
        return "" + ready().size();
    }

    private String close() {
        if (!running || giver != null || active().size() > 0) {
            return BAD_STATE;
        }
        running = false;
        return "" + tracks.values().stream().filter(track -> track.state == 'd').count();
    }

    private String begin(int who, int what) {
        if (!isIn(who, people) || !isIn(what, steps)) {
            return MISSING;
        }
        Person person = people.get(who);
        Step step = steps.get(what);
        if (!running) {
            return BAD_STATE;
        }
        if (!free(person) || !person.roles.contains(step.role) || !ready().contains(step) || paused(step.role)) {
            return UNSUPPORTED;
        }
        Track track = tracks.get(step);
        track.state = 'a';
        track.worker = person;
        track.worked = 0;
        track.seen = readings.clone();
        note('b', step, person);
        return "" + (clock + step.length + step.length);
    }

    private String finish(int who, boolean ok) {
        if (!isIn(who, people)) {
            return MISSING;
        }
        Step step = work(people.get(who));
        if (step == null) {
            return BAD_STATE;
        }
        if (tracks.get(step).worked < step.length || people.get(who) == giver) {
            return UNSUPPORTED;
        }
        if (ok) {
            tracks.get(step).worker = null;
            tracks.get(step).state = 'd';
            done.push(step);
            note('d', step, null);
        } else {
            fail(step);
        }
        return "" + tracks.get(step).state;
    }

    private void fail(Step step) {
        Track track = tracks.get(step);
        track.worker = null;
        track.tries++;
        track.state = track.tries < step.limit ? 'w' : 'f';
        note(track.state == 'w' ? 'm' : 'f', step, null);
        if (track.state == 'f' && step.fallback != null && tracks.get(step.fallback).state == 'o') {
            tracks.get(step.fallback).state = 'w';
            note('e', step.fallback, null);
        }
    }

    private String handOver(int from, int to) {
        String wrong = firstOf(
                when(() -> !isIn(from, people) || !isIn(to, people)), MISSING,
                when(() -> from == to), ILLEGAL,
                when(() -> !running || giver != null), BAD_STATE,
                when(() -> !people.get(from).duty || people.get(to).duty), UNSUPPORTED,
                when(() -> work(people.get(from)) != null
                        && !people.get(to).roles.contains(work(people.get(from)).role)), UNSUPPORTED);
        if (wrong != null) {
            return wrong;
        }
        giver = people.get(from);
        taker = people.get(to);
        minutesLeft = 10;
        note('h', null, giver);
        return "" + (clock + minutesLeft);
    }

    private String undo(int number) {
        if (!isIn(number, steps)) {
            return MISSING;
        }
        Step last = steps.get(number);
        if (!running || active().size() > 0 || tracks.get(last).state != 'd') {
            return BAD_STATE;
        }
        List<Step> undone = new ArrayList<>();
        for (Step step : done) {
            undone.add(step);
            if (step == last) {
                break;
            }
        }
        if (undone.stream().anyMatch(step -> !step.reversible)) {
            return UNSUPPORTED;
        }
        for (Step step : undone) {
            done.remove(step);
            tracks.get(step).state = 'w';
            tracks.get(step).tries = 0;
            note('u', step, null);
        }
        return "" + undone.size();
    }

    private String pass(int minutes) {
        if (minutes < 1 || minutes > 240) {
            return ILLEGAL;
        }
        int count = 0;
        for (int minute = 0; minute < minutes; minute++) {
            clock++;
            for (Step step : active()) {
                if (tracks.get(step).worker != giver) {
                    tracks.get(step).worked++;
                    total++;
                }
            }
            for (Step step : active()) {
                if (tracks.get(step).worked == 2 * step.length) {
                    fail(step);
                    count++;
                }
            }
            if (giver != null && --minutesLeft == 0) {
                endHandover();
            }
        }
        return "" + count;
    }

    private void endHandover() {
        Step step = work(giver);
        if (step != null) {
            tracks.get(step).worker = taker;
        }
        giver.duty = false;
        taker.duty = true;
        note('g', step, taker);
        giver = null;
        taker = null;
    }

    private void note(char sign, Step step, Person person) {
        log.add(new Entry(sign, step == null ? -1 : step.number, person == null ? -1 : person.number, clock));
    }

    private List<Step> active() {
        return steps.stream().filter(step -> running && tracks.get(step).state == 'a').toList();
    }

    private Step work(Person person) {
        return active().stream().filter(step -> tracks.get(step).worker == person).findFirst().orElse(null);
    }

    private boolean free(Person person) {
        return person.duty && work(person) == null && person != giver;
    }

    private boolean paused(int role) {
        return giver != null && giver.roles.contains(role);
    }

    private boolean settled(Step step) {
        char state = tracks.get(step).state;
        return state == 'd' || state == 'f' && step.fallback != null && settled(step.fallback);
    }

    private boolean met(Step step) {
        if (step.needs.isEmpty()) {
            return true;
        }
        return step.join == 'a' ? step.needs.stream().allMatch(this::settled) : step.needs.stream().anyMatch(this::settled);
    }

    private boolean guarded(Step step) {
        return step.conditions.stream().allMatch(condition -> {
            int order = Integer.compare(readings[condition.sensor], condition.bound);
            return "<=>".charAt(order + 1) == condition.sign;
        });
    }

    private List<Step> ready() {
        return steps.stream()
                .filter(step -> running && tracks.get(step).state == 'w' && met(step) && guarded(step)).toList();
    }

    private boolean over() {
        return running && steps.stream().allMatch(step -> tracks.get(step).state == 'o' || settled(step));
    }

    private boolean stuck() {
        return running && !over() && active().isEmpty() && ready().isEmpty();
    }

    private int tries() {
        return tracks.values().stream().mapToInt(track -> track.tries).sum();
    }

    private int rest(Step step) {
        return step.length + steps.stream().filter(other -> other.needs.contains(step)).mapToInt(this::rest).max().orElse(0);
    }

    private String next(Person person) {
        Map<Integer, Step> byRest = new TreeMap<>();
        for (Step step : ready()) {
            if (person.roles.contains(step.role)) {
                byRest.putIfAbsent(-rest(step), step);
            }
        }
        return byRest.isEmpty() ? BAD_STATE : "" + byRest.values().iterator().next().number;
    }

    private char whyNot(Step step) {
        String reason = firstOf(
                when(() -> !running), "s",
                when(() -> tracks.get(step).state != 'w'), "x",
                when(() -> !met(step)), "n",
                when(() -> !guarded(step)), "g",
                when(() -> paused(step.role)), "p",
                when(() -> people.stream().noneMatch(person -> free(person) && person.roles.contains(step.role))), "r",
                when(() -> true), "-");
        return reason.charAt(0);
    }

    private String guardReading(Step step, int index) {
        Track track = tracks.get(step);
        return firstOf(
                when(() -> !isIn(index, step.conditions)), OUTSIDE,
                when(() -> track == null || track.seen == null), BAD_STATE,
                when(() -> true), track == null || track.seen == null || !isIn(index, step.conditions) ? ""
                        : "" + track.seen[step.conditions.get(index).sensor]);
    }
}
