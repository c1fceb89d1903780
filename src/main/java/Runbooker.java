import java.util.NoSuchElementException;

/**
 * A procedure runner for operations: steps need other steps, have guards over readings and need people with roles;
 * tries that fail are repeated, fallbacks step in, branches are joined, shifts are handed over, and steps are undone in
 * reverse.
 */
public final class Runbooker {
    private static final int ROLES = 4;
    private static final int ALL_ROLES = 15;
    private static final int SENSORS = 6;
    private static final int MAX_READING = 999;
    private static final int MAX_PEOPLE = 8;
    private static final int MAX_STEPS = 16;
    private static final int MAX_CONDITIONS = 2;
    private static final int MAX_LENGTH = 60;
    private static final int MAX_TRIES = 3;
    private static final int MAX_PASS = 240;
    private static final int HANDOVER_MINUTES = 10;

    // An object is used for 512 calls, and none leaves more than three entries:
    // a step that is begun becomes done and is undone, or fails and calls its fallback in.
    private static final int MAX_ENTRIES = 3 * 512;

    private static final int NONE = -1;

    private static final char JOIN_ALL = 'a';
    private static final char JOIN_ONE = 'o';

    private static final char STATE_OFF = 'o';
    private static final char STATE_WAITING = 'w';
    private static final char STATE_ACTIVE = 'a';
    private static final char STATE_DONE = 'd';
    private static final char STATE_FAILED = 'f';

    private static final char SIGN_BEGUN = 'b';
    private static final char SIGN_DONE = 'd';
    private static final char SIGN_MISSED = 'm';
    private static final char SIGN_FAILED = 'f';
    private static final char SIGN_CALLED_IN = 'e';
    private static final char SIGN_UNDONE = 'u';
    private static final char SIGN_HANDING_OVER = 'h';
    private static final char SIGN_HANDED_OVER = 'g';

    private final Crew crew;
    private final Plan plan;
    private final Progress progress;
    private final Handover handover;
    private final Journal journal;
    private final int[] readings;
    private int minute;
    private boolean isRunOpen;
    private long minutesWorked;

    public Runbooker() {
        crew = new Crew();
        plan = new Plan();
        progress = new Progress();
        handover = new Handover();
        journal = new Journal();
        readings = new int[SENSORS];
    }

    public int addPerson(int roles) throws IllegalArgumentException, IllegalStateException {
        if (roles < 1 || roles > ALL_ROLES) {
            throw new IllegalArgumentException("the roles are out of range");
        }
        if (crew.size >= MAX_PEOPLE) {
            throw new IllegalStateException("there are 8 people");
        }
        return crew.join(roles);
    }

    public boolean setDuty(int person, boolean isOn) throws NoSuchElementException, IllegalStateException {
        requirePerson(person);
        if (crew.isBusy(person) || handover.involves(person)) {
            throw new IllegalStateException("the person is busy or takes part in a handover");
        }
        boolean wasOn = crew.onDuty[person];
        crew.onDuty[person] = isOn;
        return wasOn;
    }

    public int addStep(int role, int length, int tries, char join, boolean isReversible)
            throws IllegalArgumentException, IllegalStateException {
        if (!isRole(role) || length < 1 || length > MAX_LENGTH) {
            throw new IllegalArgumentException("the role or the length is out of range");
        }
        if (tries < 1 || tries > MAX_TRIES || (join != JOIN_ALL && join != JOIN_ONE)) {
            throw new IllegalArgumentException("the limit of tries or the join is out of range");
        }
        requireNoRun();
        if (plan.size >= MAX_STEPS) {
            throw new IllegalStateException("there are 16 steps");
        }
        return plan.append(role, length, tries, join, isReversible);
    }

    public int need(int step, int other)
            throws NoSuchElementException, IllegalArgumentException, IllegalStateException {
        requireStep(step);
        requireStep(other);
        if (other >= step) {
            throw new IllegalArgumentException("a step needs steps with lower numbers alone");
        }
        requireNoRun();
        if (plan.doesNeed(step, other)) {
            throw new IllegalStateException("the step needs the other one already");
        }
        plan.needs[step] |= 1 << other;
        return Integer.bitCount(plan.needs[step]);
    }

    public int condition(int step, int sensor, char sign, int bound)
            throws NoSuchElementException, IllegalArgumentException, IllegalStateException {
        requireStep(step);
        if (!isSensor(sensor) || !isReading(bound) || (sign != '<' && sign != '>' && sign != '=')) {
            throw new IllegalArgumentException("the sensor, the sign or the bound is out of range");
        }
        requireNoRun();
        if (plan.conditionCounts[step] >= MAX_CONDITIONS) {
            throw new IllegalStateException("the step has 2 conditions");
        }
        return plan.addCondition(step, sensor, sign, bound);
    }

    public int setFallback(int step, int other)
            throws NoSuchElementException, IllegalArgumentException, IllegalStateException {
        requireStep(step);
        requireStep(other);
        int owner = plan.ownerOfFallback(other);
        if (other <= step || (owner != NONE && owner != step)) {
            throw new IllegalArgumentException("the other step cannot be the fallback of this one");
        }
        requireNoRun();
        int before = plan.fallbacks[step];
        plan.fallbacks[step] = other;
        return before;
    }

    public int setReading(int sensor, int reading) throws IllegalArgumentException {
        if (!isSensor(sensor) || !isReading(reading)) {
            throw new IllegalArgumentException("the sensor or the reading is out of range");
        }
        int before = readings[sensor];
        readings[sensor] = reading;
        return before;
    }

    public int start() throws IllegalStateException {
        requireNoRun();
        if (plan.size == 0) {
            throw new IllegalStateException("there are no steps");
        }
        progress.reset(plan);
        journal.size = 0;
        isRunOpen = true;
        return countReady();
    }

    public int close() throws IllegalStateException {
        requireRun();
        if (progress.isAnyActive() || handover.isOn()) {
            throw new IllegalStateException("a step is active, or there is a handover");
        }
        isRunOpen = false;
        return progress.doneCount;
    }

    public int begin(int person, int step)
            throws NoSuchElementException, IllegalStateException, UnsupportedOperationException {
        requirePerson(person);
        requireStep(step);
        requireRun();
        int role = plan.roles[step];
        if (!isFree(person) || !crew.isAble(person, role)) {
            throw new UnsupportedOperationException("the person cannot begin the step");
        }
        if (!isStepReady(step) || isRolePaused(role)) {
            throw new UnsupportedOperationException("the step cannot be begun");
        }
        crew.work[person] = step;
        progress.activate(step, readings);
        journal.write(SIGN_BEGUN, step, person, minute);
        return minute + 2 * plan.lengths[step];
    }

    public char finish(int person, boolean isOk)
            throws NoSuchElementException, IllegalStateException, UnsupportedOperationException {
        requirePerson(person);
        int step = crew.work[person];
        if (!plan.has(step)) {
            throw new IllegalStateException("the person is not the worker of an active step");
        }
        if (progress.worked[step] < plan.lengths[step] || handover.isFrom(person)) {
            throw new UnsupportedOperationException("the step cannot be finished yet");
        }
        if (isOk) {
            completeStep(step);
        } else {
            failTry(step);
        }
        return progress.states[step];
    }

    public int handOver(int from, int to)
            throws NoSuchElementException, IllegalArgumentException, IllegalStateException,
            UnsupportedOperationException {
        requirePerson(from);
        requirePerson(to);
        if (from == to) {
            throw new IllegalArgumentException("both people are the same");
        }
        requireRun();
        if (handover.isOn()) {
            throw new IllegalStateException("there is a handover");
        }
        if (!crew.onDuty[from] || crew.onDuty[to] || !canTakeOver(from, to)) {
            throw new UnsupportedOperationException("the other person cannot take over");
        }
        handover.open(from, to, minute + HANDOVER_MINUTES);
        journal.write(SIGN_HANDING_OVER, NONE, from, minute);
        return handover.end;
    }

    public int undo(int step)
            throws NoSuchElementException, IllegalStateException, UnsupportedOperationException {
        requireStep(step);
        requireRun();
        if (progress.isAnyActive() || progress.states[step] != STATE_DONE) {
            throw new IllegalStateException("a step is active, or the step is not done");
        }
        int first = progress.placeInDone(step);
        if (!areReversibleFrom(first)) {
            throw new UnsupportedOperationException("a step that would be undone is not reversible");
        }
        int undone = 0;
        for (int place = progress.doneCount - 1; place >= first; place--) {
            journal.write(SIGN_UNDONE, progress.undoLatest(), NONE, minute);
            undone++;
        }
        return undone;
    }

    public int pass(int minutes) throws IllegalArgumentException {
        if (minutes < 1 || minutes > MAX_PASS) {
            throw new IllegalArgumentException("the number of minutes is out of range");
        }
        int timedOut = 0;
        for (int passed = 0; passed < minutes; passed++) {
            timedOut += passMinute();
        }
        return timedOut;
    }

    public int people() {
        return crew.size;
    }

    public int steps() {
        return plan.size;
    }

    public int clock() {
        return minute;
    }

    public boolean isOnDuty(int person) throws NoSuchElementException {
        requirePerson(person);
        return crew.onDuty[person];
    }

    public boolean hasRole(int person, int role) throws NoSuchElementException, IllegalArgumentException {
        requirePerson(person);
        requireRole(role);
        return crew.isAble(person, role);
    }

    public int workOf(int person) throws NoSuchElementException {
        requirePerson(person);
        return crew.work[person];
    }

    public int readingOf(int sensor) throws IllegalArgumentException {
        if (!isSensor(sensor)) {
            throw new IllegalArgumentException("the sensor is out of range");
        }
        return readings[sensor];
    }

    public boolean doesGuardHold(int step) throws NoSuchElementException {
        requireStep(step);
        return plan.isGuardMet(step, readings);
    }

    public int guardReading(int step, int index)
            throws NoSuchElementException, IndexOutOfBoundsException, IllegalStateException {
        requireStep(step);
        if (index < 0 || index >= plan.conditionCounts[step]) {
            throw new IndexOutOfBoundsException("the step has no such condition");
        }
        if (!progress.wasBegun[step]) {
            throw new IllegalStateException("the step has not been begun in the run");
        }
        return progress.seenReading(step, plan.sensorOf(step, index));
    }

    public boolean isRunning() {
        return isRunOpen;
    }

    public char stateOf(int step) throws NoSuchElementException, IllegalStateException {
        requireStepOfRun(step);
        return progress.states[step];
    }

    public int triesOf(int step) throws NoSuchElementException, IllegalStateException {
        requireStepOfRun(step);
        return progress.tries[step];
    }

    public boolean isReady(int step) throws NoSuchElementException {
        requireStep(step);
        return isStepReady(step);
    }

    public char whyNot(int step) throws NoSuchElementException {
        requireStep(step);
        if (!isRunOpen) {
            return 's';
        }
        if (progress.states[step] != STATE_WAITING) {
            return 'x';
        }
        if (!areNeedsMet(step)) {
            return 'n';
        }
        if (!plan.isGuardMet(step, readings)) {
            return 'g';
        }
        if (isRolePaused(plan.roles[step])) {
            return 'p';
        }
        return isAnyoneFreeFor(plan.roles[step]) ? '-' : 'r';
    }

    public int ready() {
        return countReady();
    }

    public int nextStep(int person) throws NoSuchElementException, IllegalStateException {
        requirePerson(person);
        int best = mostUrgentFor(person);
        if (best == NONE) {
            throw new IllegalStateException("no step is ready for the person");
        }
        return best;
    }

    public int restOf(int step) throws NoSuchElementException {
        requireStep(step);
        plan.forgetRests();
        return recursiveRest(plan, step, 0);
    }

    public int restBySweep(int step) throws NoSuchElementException {
        requireStep(step);
        plan.sweepRests();
        return plan.rests[step];
    }

    public boolean isSettled(int step) throws NoSuchElementException {
        requireStep(step);
        return isRunOpen && isStepSettled(step);
    }

    public boolean isOver() {
        return isRunOpen && areAllSettled();
    }

    public boolean isStuck() {
        return isRunOpen && !areAllSettled() && !progress.isAnyActive() && countReady() == 0;
    }

    public int handoverEnd() throws IllegalStateException {
        if (!handover.isOn()) {
            throw new IllegalStateException("there is no handover");
        }
        return handover.end;
    }

    public boolean isPaused(int role) throws IllegalArgumentException {
        requireRole(role);
        return isRolePaused(role);
    }

    public int workedOn(int step) throws NoSuchElementException, IllegalStateException {
        requireStep(step);
        if (progress.states[step] != STATE_ACTIVE) {
            throw new IllegalStateException("the step is not active");
        }
        return progress.worked[step];
    }

    public int lastDone() throws IllegalStateException {
        requireRun();
        int step = progress.latestDone();
        if (step == NONE) {
            throw new IllegalStateException("no step is done");
        }
        return step;
    }

    public int entries() {
        return journal.size;
    }

    public char signAt(int entry) throws NoSuchElementException {
        requireEntry(entry);
        return journal.signs[entry];
    }

    public int stepAt(int entry) throws NoSuchElementException {
        requireEntry(entry);
        return journal.steps[entry];
    }

    public int personAt(int entry) throws NoSuchElementException {
        requireEntry(entry);
        return journal.people[entry];
    }

    public int minuteAt(int entry) throws NoSuchElementException {
        requireEntry(entry);
        return journal.minutes[entry];
    }

    public char stateByLog(int step) throws NoSuchElementException, IllegalStateException {
        requireStepOfRun(step);
        return journal.lastState(step, progress.wasOff[step] ? STATE_OFF : STATE_WAITING);
    }

    public int triesByLog(int step) throws NoSuchElementException, IllegalStateException {
        requireStepOfRun(step);
        return journal.countTries(step);
    }

    public int labelLength(int step) throws NoSuchElementException {
        requireStep(step);
        return plan.labelOf(step).length();
    }

    public char labelAt(int step, int index) throws NoSuchElementException, IndexOutOfBoundsException {
        requireStep(step);
        StringBuilder label = plan.labelOf(step);
        if (index < 0 || index >= label.length()) {
            throw new IndexOutOfBoundsException("the label has no such index");
        }
        return label.charAt(index);
    }

    public long workedMinutes() {
        return minutesWorked;
    }

    public float doneShare() throws IllegalStateException {
        requireRun();
        return (float) progress.doneCount / (float) progress.divisor();
    }

    public double meanTries() throws IllegalStateException {
        requireRun();
        return (double) progress.sumOfTries() / (double) progress.divisor();
    }

    private void requirePerson(int person) {
        if (!crew.has(person)) {
            throw new NoSuchElementException("there is no such person");
        }
    }

    private void requireStep(int step) {
        if (!plan.has(step)) {
            throw new NoSuchElementException("there is no such step");
        }
    }

    private void requireStepOfRun(int step) {
        requireStep(step);
        if (!progress.has(step)) {
            throw new IllegalStateException("the step was in no run yet");
        }
    }

    private void requireEntry(int entry) {
        if (!journal.has(entry)) {
            throw new NoSuchElementException("there is no such entry");
        }
    }

    private void requireRole(int role) {
        if (!isRole(role)) {
            throw new IllegalArgumentException("the role is out of range");
        }
    }

    private void requireRun() {
        if (!isRunOpen) {
            throw new IllegalStateException("there is no run");
        }
    }

    private void requireNoRun() {
        if (isRunOpen) {
            throw new IllegalStateException("there is a run");
        }
    }

    private static boolean isRole(int role) {
        return role >= 0 && role < ROLES;
    }

    private static boolean isSensor(int sensor) {
        return sensor >= 0 && sensor < SENSORS;
    }

    private static boolean isReading(int reading) {
        return reading >= -MAX_READING && reading <= MAX_READING;
    }

    private int passMinute() {
        minute++;
        minutesWorked += progress.workMinute(stepHeldUp());
        int timedOut = timeOutSteps();
        if (handover.isOn() && handover.end == minute) {
            endHandover();
        }
        return timedOut;
    }

    /** The active step whose worker is handing over, or NONE. */
    private int stepHeldUp() {
        return crew.has(handover.from) ? crew.work[handover.from] : NONE;
    }

    private int timeOutSteps() {
        int timedOut = 0;
        for (int step = 0; step < progress.size; step++) {
            if (progress.states[step] == STATE_ACTIVE && progress.worked[step] >= 2 * plan.lengths[step]) {
                failTry(step);
                timedOut++;
            }
        }
        return timedOut;
    }

    private void endHandover() {
        int step = stepHeldUp();
        crew.replace(handover.from, handover.to);
        journal.write(SIGN_HANDED_OVER, step, handover.to, minute);
        handover.clear();
    }

    private void completeStep(int step) {
        crew.release(step);
        progress.complete(step);
        journal.write(SIGN_DONE, step, NONE, minute);
    }

    private void failTry(int step) {
        crew.release(step);
        progress.tries[step]++;
        if (progress.tries[step] < plan.limits[step]) {
            progress.states[step] = STATE_WAITING;
            journal.write(SIGN_MISSED, step, NONE, minute);
            return;
        }
        progress.states[step] = STATE_FAILED;
        journal.write(SIGN_FAILED, step, NONE, minute);
        callIn(plan.fallbacks[step]);
    }

    private void callIn(int fallback) {
        if (progress.has(fallback) && progress.states[fallback] == STATE_OFF) {
            progress.states[fallback] = STATE_WAITING;
            journal.write(SIGN_CALLED_IN, fallback, NONE, minute);
        }
    }

    private boolean canTakeOver(int from, int to) {
        int step = crew.work[from];
        return !plan.has(step) || crew.isAble(to, plan.roles[step]);
    }

    private boolean areReversibleFrom(int first) {
        for (int place = first; place < progress.doneCount; place++) {
            int step = progress.doneOrder[place];
            if (plan.has(step) && !plan.reversible[step]) {
                return false;
            }
        }
        return true;
    }

    private boolean isFree(int person) {
        return crew.onDuty[person] && !crew.isBusy(person) && !handover.isFrom(person);
    }

    private boolean isAnyoneFreeFor(int role) {
        for (int person = 0; person < crew.size; person++) {
            if (isFree(person) && crew.isAble(person, role)) {
                return true;
            }
        }
        return false;
    }

    private boolean isRolePaused(int role) {
        return crew.has(handover.from) && crew.isAble(handover.from, role);
    }

    private boolean isStepReady(int step) {
        return isRunOpen && progress.states[step] == STATE_WAITING && areNeedsMet(step)
                && plan.isGuardMet(step, readings);
    }

    private int countReady() {
        int count = 0;
        for (int step = 0; step < plan.size; step++) {
            if (isStepReady(step)) {
                count++;
            }
        }
        return count;
    }

    private boolean areNeedsMet(int step) {
        int needed = 0;
        int settled = 0;
        for (int other = 0; other < step; other++) {
            if (plan.doesNeed(step, other)) {
                needed++;
                settled += isStepSettled(other) ? 1 : 0;
            }
        }
        return plan.joins[step] == JOIN_ONE ? needed == 0 || settled > 0 : settled == needed;
    }

    private boolean isStepSettled(int step) {
        int current = step;
        // fallbacks have higher numbers, so that no chain of them is longer than the steps are many
        for (int length = 0; length < MAX_STEPS && progress.has(current); length++) {
            if (progress.states[current] != STATE_FAILED) {
                return progress.states[current] == STATE_DONE;
            }
            current = plan.fallbacks[current];
        }
        return false;
    }

    private boolean areAllSettled() {
        for (int step = 0; step < progress.size; step++) {
            if (progress.states[step] != STATE_OFF && !isStepSettled(step)) {
                return false;
            }
        }
        return true;
    }

    private int mostUrgentFor(int person) {
        plan.sweepRests();
        int best = NONE;
        for (int step = 0; step < plan.size; step++) {
            boolean isMore = best == NONE || plan.rests[step] > plan.rests[best];
            if (isMore && isStepReady(step) && crew.isAble(person, plan.roles[step])) {
                best = step;
            }
        }
        return best;
    }

    /** A rest that is found once is kept in the plan: without that, a dense plan takes a call for every way. */
    private static int recursiveRest(Plan plan, int step, int depth) {
        if (depth >= MAX_STEPS) {
            return 0;
        }
        if (plan.rests[step] == 0) {
            int greatest = 0;
            for (int other = step + 1; other < plan.size; other++) {
                if (plan.doesNeed(other, step)) {
                    greatest = Math.max(greatest, recursiveRest(plan, other, depth + 1));
                }
            }
            plan.rests[step] = plan.lengths[step] + greatest;
        }
        return plan.rests[step];
    }

    /** The people: what they are able to do, whether they are on duty, and what they work on. */
    private static final class Crew {
        final int[] roles = new int[MAX_PEOPLE];
        final boolean[] onDuty = new boolean[MAX_PEOPLE];
        final int[] work = new int[MAX_PEOPLE];
        int size;

        boolean has(int person) {
            return person >= 0 && person < size;
        }

        int join(int roleBits) {
            int person = size;
            roles[person] = roleBits;
            work[person] = NONE;
            size++;
            return person;
        }

        boolean isAble(int person, int role) {
            return (roles[person] >> role & 1) == 1;
        }

        boolean isBusy(int person) {
            return work[person] != NONE;
        }

        void release(int step) {
            for (int person = 0; person < size; person++) {
                if (work[person] == step) {
                    work[person] = NONE;
                }
            }
        }

        void replace(int from, int to) {
            if (has(from) && has(to)) {
                work[to] = work[from];
                work[from] = NONE;
                onDuty[from] = false;
                onDuty[to] = true;
            }
        }
    }

    /** The steps as they are told: what they need, their guards and their fallbacks. */
    private static final class Plan {
        final int[] roles = new int[MAX_STEPS];
        final int[] lengths = new int[MAX_STEPS];
        final int[] limits = new int[MAX_STEPS];
        final char[] joins = new char[MAX_STEPS];
        final boolean[] reversible = new boolean[MAX_STEPS];
        final int[] needs = new int[MAX_STEPS];
        final int[] fallbacks = new int[MAX_STEPS];
        final int[] conditionCounts = new int[MAX_STEPS];
        final int[] sensors = new int[MAX_STEPS * MAX_CONDITIONS];
        final char[] signs = new char[MAX_STEPS * MAX_CONDITIONS];
        final int[] bounds = new int[MAX_STEPS * MAX_CONDITIONS];
        final int[] rests = new int[MAX_STEPS];
        int size;

        boolean has(int step) {
            return step >= 0 && step < size;
        }

        int append(int role, int length, int limit, char join, boolean isReversible) {
            int step = size;
            roles[step] = role;
            lengths[step] = length;
            limits[step] = limit;
            joins[step] = join;
            reversible[step] = isReversible;
            fallbacks[step] = NONE;
            size++;
            return step;
        }

        boolean doesNeed(int step, int other) {
            return (needs[step] >> other & 1) == 1;
        }

        int ownerOfFallback(int fallback) {
            for (int step = 0; step < size; step++) {
                if (fallbacks[step] == fallback) {
                    return step;
                }
            }
            return NONE;
        }

        int addCondition(int step, int sensor, char sign, int bound) {
            int place = step * MAX_CONDITIONS + conditionCounts[step];
            sensors[place] = sensor;
            signs[place] = sign;
            bounds[place] = bound;
            conditionCounts[step]++;
            return conditionCounts[step];
        }

        int sensorOf(int step, int index) {
            return sensors[step * MAX_CONDITIONS + index];
        }

        boolean isGuardMet(int step, int[] current) {
            for (int index = 0; index < conditionCounts[step]; index++) {
                int place = step * MAX_CONDITIONS + index;
                int sensor = sensors[place];
                if (isSensor(sensor) && !isMet(current[sensor], signs[place], bounds[place])) {
                    return false;
                }
            }
            return true;
        }

        private static boolean isMet(int reading, char sign, int bound) {
            if (sign == '<') {
                return reading < bound;
            }
            return sign == '>' ? reading > bound : reading == bound;
        }

        void forgetRests() {
            for (int step = 0; step < size; step++) {
                rests[step] = 0;
            }
        }

        void sweepRests() {
            for (int step = size - 1; step >= 0; step--) {
                int greatest = 0;
                for (int other = step + 1; other < size; other++) {
                    if (doesNeed(other, step)) {
                        greatest = Math.max(greatest, rests[other]);
                    }
                }
                rests[step] = lengths[step] + greatest;
            }
        }

        StringBuilder labelOf(int step) {
            StringBuilder label = new StringBuilder();
            label.append(step);
            label.append((char) ('A' + roles[step]));
            label.append(lengths[step]);
            label.append(joins[step]);
            return label;
        }
    }

    /** How far the steps are in this run, or in the latest one. */
    private static final class Progress {
        final char[] states = new char[MAX_STEPS];
        final boolean[] wasOff = new boolean[MAX_STEPS];
        final boolean[] wasBegun = new boolean[MAX_STEPS];
        final int[] tries = new int[MAX_STEPS];
        final int[] worked = new int[MAX_STEPS];
        // all sensors of each step, as a condition may be added when the run is closed
        final int[] seen = new int[MAX_STEPS * SENSORS];
        final int[] doneOrder = new int[MAX_STEPS];
        int doneCount;
        int size;

        boolean has(int step) {
            return step >= 0 && step < size;
        }

        void reset(Plan plan) {
            size = plan.size;
            doneCount = 0;
            for (int step = 0; step < size; step++) {
                wasOff[step] = plan.ownerOfFallback(step) != NONE;
                wasBegun[step] = false;
                states[step] = wasOff[step] ? STATE_OFF : STATE_WAITING;
                tries[step] = 0;
            }
        }

        void activate(int step, int[] readings) {
            states[step] = STATE_ACTIVE;
            worked[step] = 0;
            wasBegun[step] = true;
            for (int sensor = 0; sensor < SENSORS; sensor++) {
                seen[step * SENSORS + sensor] = readings[sensor];
            }
        }

        int seenReading(int step, int sensor) {
            return seen[step * SENSORS + sensor];
        }

        /** Returns how many steps have been worked on. */
        int workMinute(int heldUp) {
            int count = 0;
            for (int step = 0; step < size; step++) {
                if (states[step] == STATE_ACTIVE && step != heldUp) {
                    worked[step]++;
                    count++;
                }
            }
            return count;
        }

        void complete(int step) {
            states[step] = STATE_DONE;
            if (doneCount < MAX_STEPS) {
                doneOrder[doneCount] = step;
                doneCount++;
            }
        }

        /** Returns the place of a step in the order in which steps became done, or their count. */
        int placeInDone(int step) {
            for (int place = 0; place < doneCount; place++) {
                if (doneOrder[place] == step) {
                    return place;
                }
            }
            return doneCount;
        }

        /** The step that became done last of those that are done, or NONE. */
        int latestDone() {
            return doneCount > 0 ? doneOrder[doneCount - 1] : NONE;
        }

        /** Undoes the step that became done last, and returns it, or NONE. */
        int undoLatest() {
            int step = latestDone();
            if (has(step)) {
                doneCount--;
                states[step] = STATE_WAITING;
                tries[step] = 0;
            }
            return step;
        }

        boolean isAnyActive() {
            for (int step = 0; step < size; step++) {
                if (states[step] == STATE_ACTIVE) {
                    return true;
                }
            }
            return false;
        }

        int sumOfTries() {
            int sum = 0;
            for (int step = 0; step < size; step++) {
                sum += tries[step];
            }
            return sum;
        }

        /** The number of steps; a run has one at least, and nothing else is divided by. */
        int divisor() {
            return Math.max(1, size);
        }
    }

    /** Who hands over to whom, and until when; without a handover both are NONE. */
    private static final class Handover {
        int from = NONE;
        int to = NONE;
        int end;

        boolean isOn() {
            return from != NONE;
        }

        boolean isFrom(int person) {
            return from == person;
        }

        boolean involves(int person) {
            return from == person || to == person;
        }

        void open(int giver, int taker, int lastMinute) {
            from = giver;
            to = taker;
            end = lastMinute;
        }

        void clear() {
            from = NONE;
            to = NONE;
        }
    }

    /** The log of this run, or of the latest one. */
    private static final class Journal {
        final char[] signs = new char[MAX_ENTRIES];
        final int[] steps = new int[MAX_ENTRIES];
        final int[] people = new int[MAX_ENTRIES];
        final int[] minutes = new int[MAX_ENTRIES];
        int size;

        boolean has(int entry) {
            return entry >= 0 && entry < size;
        }

        void write(char sign, int step, int person, int minute) {
            // only an object that is used for more calls than it is made for comes to its end here
            if (size < MAX_ENTRIES) {
                signs[size] = sign;
                steps[size] = step;
                people[size] = person;
                minutes[size] = minute;
                size++;
            }
        }

        char lastState(int step, char firstState) {
            char state = firstState;
            for (int entry = 0; entry < size; entry++) {
                if (steps[entry] == step) {
                    state = stateAfter(state, signs[entry]);
                }
            }
            return state;
        }

        private static char stateAfter(char state, char sign) {
            if (sign == SIGN_BEGUN) {
                return STATE_ACTIVE;
            }
            if (sign == SIGN_DONE) {
                return STATE_DONE;
            }
            if (sign == SIGN_FAILED) {
                return STATE_FAILED;
            }
            // a handover that ends changes the worker alone
            return sign == SIGN_HANDED_OVER ? state : STATE_WAITING;
        }

        int countTries(int step) {
            int tries = 0;
            for (int entry = 0; entry < size; entry++) {
                if (steps[entry] != step) {
                    continue;
                }
                if (signs[entry] == SIGN_MISSED || signs[entry] == SIGN_FAILED) {
                    tries++;
                } else if (signs[entry] == SIGN_UNDONE) {
                    tries = 0;
                }
            }
            return tries;
        }
    }
}
