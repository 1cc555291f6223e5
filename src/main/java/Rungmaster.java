import java.util.NoSuchElementException;

/** A controller of a plant and its standby; the numbered promises of DOC.md say what each call does. */
public final class Rungmaster {
    private static final int MAX_TIME = 99999;
    private static final int MAX_UNITS = 200;
    private static final int MAX_PERIOD = 100;
    private static final int MAX_PRESET = 999;
    private static final int MAX_LOST = 20;
    private static final int MAX_HOLD = 9;
    private static final int MAX_RUNGS = 40;
    private static final int MAX_CONTACTS = 4;
    private static final int MAX_STEPS = 12;
    private static final int MAX_ACTIONS = 3;
    private static final int MAX_TRANSITIONS = 16;
    private static final int MISSED_FOR_FAULT = 3;
    private static final int TASKS = 2;
    // So many inputs, outputs, numbers, timers and alarms there are, each.
    private static final int EIGHT = 8;
    private static final int FIRST_OUTPUT = 8;
    private static final int FIRST_TIMER_BIT = 24;
    private static final int BITS = 32;
    private static final int NONE = -1;
    private static final int LOCAL_INPUTS = 0x0f;
    private static final int STATION_INPUTS = 0xf0;
    private static final String RUNG_KINDS = "=srTRCZk+<JA";
    private static final String CONTACT_KINDS = "10ud";
    private static final String ACTION_KINDS = "nsrdl";

    private final Program code = new Program();
    private final Program draft = new Program();
    private final State state = new State();
    private final State saved = new State();
    private final Standby standby = new Standby();
    private final Plant plant = new Plant();
    private final Task[] tasks = new Task[] {new Task(10), new Task(0)};
    private int now;
    private int forcedMask;
    private int forcedValues;
    private int start = NONE;
    private boolean startWasOne;
    private boolean stopped;
    private long doneRungs;

    /** One rung with its contacts. */
    private static final class Rung {
        int task;
        char kind;
        int a;
        int b;
        int contactCount;
        final char[] contactKinds = new char[MAX_CONTACTS];
        final int[] contactBits = new int[MAX_CONTACTS];

        void copyFrom(Rung other) {
            task = other.task;
            kind = other.kind;
            a = other.a;
            b = other.b;
            contactCount = other.contactCount;
            for (int i = 0; i < MAX_CONTACTS; i++) {
                contactKinds[i] = other.contactKinds[i];
                contactBits[i] = other.contactBits[i];
            }
        }

        boolean hasSameContact(Rung other, int index) {
            return index < contactCount && index < other.contactCount
                && contactKinds[index] == other.contactKinds[index]
                && contactBits[index] == other.contactBits[index];
        }

        boolean isSameCounter(Rung other) {
            return kind == 'C' && other.kind == 'C' && a == other.a;
        }
    }

    /** One step's actions. */
    private static final class Step {
        int actionCount;
        final char[] kinds = new char[MAX_ACTIONS];
        final int[] bits = new int[MAX_ACTIONS];
        final int[] times = new int[MAX_ACTIONS];

        void copyFrom(Step other) {
            actionCount = other.actionCount;
            for (int i = 0; i < MAX_ACTIONS; i++) {
                kinds[i] = other.kinds[i];
                bits[i] = other.bits[i];
                times[i] = other.times[i];
            }
        }
    }

    /** One transition; the steps ahead and behind are masks. */
    private static final class Transition {
        int ahead;
        int behind;
        int bit;
        boolean isOne;

        void copyFrom(Transition other) {
            ahead = other.ahead;
            behind = other.behind;
            bit = other.bit;
            isOne = other.isOne;
        }
    }

    /** Rungs, steps and transitions: the code, or the draft. */
    private static final class Program {
        int rungCount;
        int stepCount;
        int transitionCount;
        final Rung[] rungRow = new Rung[MAX_RUNGS];
        final Step[] stepRow = new Step[MAX_STEPS];
        final Transition[] transitionRow = new Transition[MAX_TRANSITIONS];

        Program() {
            for (int i = 0; i < MAX_RUNGS; i++) {
                rungRow[i] = new Rung();
            }
            for (int i = 0; i < MAX_STEPS; i++) {
                stepRow[i] = new Step();
            }
            for (int i = 0; i < MAX_TRANSITIONS; i++) {
                transitionRow[i] = new Transition();
            }
        }

        void clear() {
            rungCount = 0;
            stepCount = 0;
            transitionCount = 0;
        }

        void copyFrom(Program other) {
            rungCount = other.rungCount;
            stepCount = other.stepCount;
            transitionCount = other.transitionCount;
            for (int i = 0; i < rungCount; i++) {
                rungRow[i].copyFrom(other.rungRow[i]);
            }
            for (int i = 0; i < stepCount; i++) {
                stepRow[i].copyFrom(other.stepRow[i]);
            }
            for (int i = 0; i < transitionCount; i++) {
                transitionRow[i].copyFrom(other.transitionRow[i]);
            }
        }

        boolean hasRung(int index) {
            return index >= 0 && index < rungCount;
        }

        boolean hasStep(int index) {
            return index >= 0 && index < stepCount;
        }

        boolean hasStepOrNone(int index) {
            return index == NONE || hasStep(index);
        }

        int stepMask() {
            return (1 << stepCount) - 1;
        }
    }

    /** The alarms and their row; which are there, and which were acknowledged, are masks. */
    private static final class Alarms {
        int there;
        int acknowledged;
        final int[] shelvedFor = new int[EIGHT];
        final int[] row = new int[EIGHT];
        int rowLength;

        void clear() {
            there = 0;
            acknowledged = 0;
            for (int i = 0; i < EIGHT; i++) {
                shelvedFor[i] = 0;
            }
            rowLength = 0;
        }

        void copyFrom(Alarms other) {
            there = other.there;
            acknowledged = other.acknowledged;
            System.arraycopy(other.shelvedFor, 0, shelvedFor, 0, EIGHT);
            System.arraycopy(other.row, 0, row, 0, EIGHT);
            rowLength = other.rowLength;
        }

        int timesInRow(int which) {
            int times = 0;
            for (int i = 0; i < rowLength; i++) {
                if (row[i] == which) {
                    times++;
                }
            }
            return times;
        }

        void enterRow(int which) {
            for (int i = 0; i < rowLength; i++) {
                if (row[i] == which) {
                    return;
                }
            }
            if (rowLength < EIGHT) {
                row[rowLength] = which;
                rowLength++;
            }
        }

        void leaveRow(int which) {
            int kept = 0;
            for (int i = 0; i < rowLength; i++) {
                if (row[i] != which) {
                    row[kept] = row[i];
                    kept++;
                }
            }
            rowLength = kept;
            acknowledged &= ~(1 << which);
        }

        void appear(int which) {
            if (!isSet(there, which)) {
                there |= 1 << which;
                if (shelvedFor[which] == 0) {
                    enterRow(which);
                }
            }
        }

        void vanish(int which) {
            there &= ~(1 << which);
            if (isSet(acknowledged, which)) {
                leaveRow(which);
            }
        }

        void confirm(int which) {
            if (isSet(there, which)) {
                acknowledged |= 1 << which;
            } else {
                leaveRow(which);
            }
        }

        void putAway(int which, int units) {
            shelvedFor[which] = units;
            if (units > 0) {
                leaveRow(which);
            } else if (isSet(there, which)) {
                enterRow(which);
            }
        }

        void shortenShelving() {
            for (int i = 0; i < EIGHT; i++) {
                if (shelvedFor[i] > 0) {
                    shelvedFor[i]--;
                    if (shelvedFor[i] == 0 && isSet(there, i)) {
                        enterRow(i);
                    }
                }
            }
        }

        char letterOf(int which) {
            if (shelvedFor[which] > 0) {
                return 's';
            }
            if (isSet(there, which)) {
                return isSet(acknowledged, which) ? 'a' : 't';
            }
            return timesInRow(which) > 0 ? 'r' : 'n';
        }

        boolean areSound() {
            for (int i = 0; i < EIGHT; i++) {
                int times = timesInRow(i);
                if (times > 1 || times == 0 && isSet(there, i) && shelvedFor[i] == 0) {
                    return false;
                }
            }
            return true;
        }
    }

    /** All that the standby gets. */
    private static final class State {
        int bits;
        int active = 1;
        int missedInRow;
        // Which rungs of the kind 'C' held when they were done last, as a mask of rungs.
        long held;
        final int[] numbers = new int[EIGHT];
        final int[] timers = new int[EIGHT];
        final int[] stepTimes = new int[MAX_STEPS];
        // What the contacts of each rung saw last, as a mask of contacts.
        final int[] seen = new int[MAX_RUNGS];
        final int[] lastScans = new int[TASKS];
        final Alarms alarmBook = new Alarms();

        void clear(int time) {
            bits = 0;
            active = 1;
            missedInRow = 0;
            held = 0;
            for (int i = 0; i < EIGHT; i++) {
                numbers[i] = 0;
                timers[i] = 0;
            }
            for (int i = 0; i < MAX_STEPS; i++) {
                stepTimes[i] = 0;
            }
            for (int i = 0; i < MAX_RUNGS; i++) {
                seen[i] = 0;
            }
            for (int i = 0; i < TASKS; i++) {
                lastScans[i] = time;
            }
            alarmBook.clear();
        }

        void copyFrom(State other) {
            bits = other.bits;
            active = other.active;
            missedInRow = other.missedInRow;
            held = other.held;
            System.arraycopy(other.numbers, 0, numbers, 0, EIGHT);
            System.arraycopy(other.timers, 0, timers, 0, EIGHT);
            System.arraycopy(other.stepTimes, 0, stepTimes, 0, MAX_STEPS);
            System.arraycopy(other.seen, 0, seen, 0, MAX_RUNGS);
            System.arraycopy(other.lastScans, 0, lastScans, 0, TASKS);
            alarmBook.copyFrom(other.alarmBook);
        }

        boolean didHold(int rung) {
            return (held >>> rung & 1L) == 1L;
        }

        void keepHolding(int rung, boolean holds) {
            held = holds ? held | 1L << rung : held & ~(1L << rung);
        }

        void write(int where, boolean one) {
            bits = one ? bits | 1 << where : bits & ~(1 << where);
        }
    }

    /** The second controller. */
    private static final class Standby {
        final State copy = new State();
        boolean inStep = true;
        boolean hasGot;
        boolean isComing;
        boolean tookOver;

        void clear() {
            inStep = true;
            hasGot = false;
            isComing = false;
            tookOver = false;
        }

        void follow(State main) {
            if (inStep) {
                copy.copyFrom(main);
                hasGot = true;
            }
        }

        void endComing() {
            if (isComing) {
                isComing = false;
                inStep = true;
            }
        }
    }

    /** The plant's inputs and outputs, and its remote station. */
    private static final class Plant {
        int inputs;
        int outputs;
        final int[] changeCounts = new int[EIGHT];
        int answersToLose;
        int lostInRow;
        int heldScans = 2;

        void giveAll(int values) {
            for (int i = 0; i < EIGHT; i++) {
                if (isSet(outputs ^ values, i)) {
                    changeCounts[i]++;
                }
            }
            outputs = values;
        }

        int localInputs(int bits) {
            return bits & ~LOCAL_INPUTS | inputs & LOCAL_INPUTS;
        }

        int stationInputs(int bits) {
            if (answersToLose == 0) {
                lostInRow = 0;
                return bits & ~STATION_INPUTS | inputs & STATION_INPUTS;
            }
            answersToLose--;
            lostInRow++;
            return lostInRow <= heldScans ? bits : bits & ~STATION_INPUTS;
        }

        void forgetLosses() {
            answersToLose = 0;
            lostInRow = 0;
        }
    }

    /** When a task is due, how many rungs it may do, and how its scans went. */
    private static final class Task {
        int period;
        int watch = MAX_RUNGS;
        int scanCount;
        int missedCount;

        Task(int firstPeriod) {
            period = firstPeriod;
        }

        boolean isDueAt(int time) {
            return period > 0 && time % period == 0;
        }
    }

    public Rungmaster() {
    }

    public int rung(int task, char kind, int a, int b) throws IllegalArgumentException, IllegalStateException {
        require(isTask(task) && RUNG_KINDS.indexOf(kind) >= 0);
        require(isFirstNumber(kind, a) && isSecondNumber(kind, b));
        if (draft.rungCount >= MAX_RUNGS) {
            throw new IllegalStateException();
        }
        Rung added = draft.rungRow[draft.rungCount];
        added.task = task;
        added.kind = kind;
        added.a = a;
        added.b = b;
        added.contactCount = 0;
        draft.rungCount++;
        return draft.rungCount - 1;
    }

    public int contact(int rung, char kind, int bit)
        throws NoSuchElementException, IllegalArgumentException, IllegalStateException {
        if (!draft.hasRung(rung)) {
            throw new NoSuchElementException();
        }
        require(CONTACT_KINDS.indexOf(kind) >= 0 && isBit(bit));
        Rung owner = draft.rungRow[rung];
        if (owner.contactCount >= MAX_CONTACTS) {
            throw new IllegalStateException();
        }
        owner.contactKinds[owner.contactCount] = kind;
        owner.contactBits[owner.contactCount] = bit;
        owner.contactCount++;
        return owner.contactCount;
    }

    public int step() throws IllegalStateException {
        if (draft.stepCount >= MAX_STEPS) {
            throw new IllegalStateException();
        }
        draft.stepRow[draft.stepCount].actionCount = 0;
        draft.stepCount++;
        return draft.stepCount - 1;
    }

    public int action(int step, char kind, int bit, int time)
        throws NoSuchElementException, IllegalArgumentException, IllegalStateException {
        if (!draft.hasStep(step)) {
            throw new NoSuchElementException();
        }
        require(ACTION_KINDS.indexOf(kind) >= 0 && isWritable(bit));
        require(kind != 'd' && kind != 'l' || isBetween(time, 1, MAX_PRESET));
        Step owner = draft.stepRow[step];
        if (owner.actionCount >= MAX_ACTIONS) {
            throw new IllegalStateException();
        }
        owner.kinds[owner.actionCount] = kind;
        owner.bits[owner.actionCount] = bit;
        owner.times[owner.actionCount] = time;
        owner.actionCount++;
        return owner.actionCount;
    }

    public int transition(int first, int second, int third, int fourth, int bit, boolean isOne)
        throws NoSuchElementException, IllegalArgumentException, IllegalStateException {
        if (!draft.hasStep(first) || !draft.hasStepOrNone(second)
            || !draft.hasStep(third) || !draft.hasStepOrNone(fourth)) {
            throw new NoSuchElementException();
        }
        require(isBit(bit) && first != second && third != fourth);
        if (draft.transitionCount >= MAX_TRANSITIONS) {
            throw new IllegalStateException();
        }
        Transition added = draft.transitionRow[draft.transitionCount];
        added.ahead = maskOf(first) | maskOf(second);
        added.behind = maskOf(third) | maskOf(fourth);
        added.bit = bit;
        added.isOne = isOne;
        draft.transitionCount++;
        return draft.transitionCount;
    }

    public int emptyDraft() {
        int before = draft.rungCount;
        draft.clear();
        return before;
    }

    public int takeOver() throws UnsupportedOperationException {
        int allowed = draft.stepMask();
        if (code.stepCount == 0) {
            allowed |= 1;
        }
        if ((state.active & ~allowed) != 0) {
            throw new UnsupportedOperationException();
        }
        keepWhatWasSeen();
        code.copyFrom(draft);
        standby.follow(state);
        return code.rungCount;
    }

    public boolean setInput(int input, boolean value) throws IllegalArgumentException {
        require(isOfEight(input));
        boolean before = isSet(plant.inputs, input);
        plant.inputs = value ? plant.inputs | maskOf(input) : plant.inputs & ~maskOf(input);
        return before;
    }

    public int force(int bit, int value) throws IllegalArgumentException {
        require(isBit(bit) && isBetween(value, NONE, 1));
        int mask = maskOf(bit);
        int before = NONE;
        if (isSet(forcedMask, bit)) {
            before = isSet(forcedValues, bit) ? 1 : 0;
        }
        forcedMask = value == NONE ? forcedMask & ~mask : forcedMask | mask;
        forcedValues = value == 1 ? forcedValues | mask : forcedValues & ~mask;
        return before;
    }

    public int setPeriod(int task, int period) throws IllegalArgumentException {
        require(isTask(task) && isBetween(period, 0, MAX_PERIOD));
        int before = tasks[task].period;
        tasks[task].period = period;
        return before;
    }

    public int setStart(int bit) throws IllegalArgumentException {
        require(bit == NONE || isBit(bit));
        int before = start;
        start = bit;
        startWasOne = false;
        return before;
    }

    public int setWatch(int task, int rungs) throws IllegalArgumentException {
        require(isTask(task) && isBetween(rungs, 1, MAX_RUNGS));
        int before = tasks[task].watch;
        tasks[task].watch = rungs;
        return before;
    }

    public int lose(int scans) throws IllegalArgumentException {
        require(isBetween(scans, 1, MAX_LOST));
        int before = plant.answersToLose;
        plant.answersToLose = scans;
        return before;
    }

    public int setHold(int scans) throws IllegalArgumentException {
        require(isBetween(scans, 0, MAX_HOLD));
        int before = plant.heldScans;
        plant.heldScans = scans;
        return before;
    }

    public int pass(int units) throws IllegalArgumentException, IllegalStateException {
        require(isBetween(units, 1, MAX_UNITS));
        if (now + units > MAX_TIME) {
            throw new IllegalStateException();
        }
        for (int i = 0; i < units; i++) {
            passOneUnit();
        }
        return now;
    }

    public boolean acknowledge(int alarm) throws IllegalArgumentException {
        require(isOfEight(alarm));
        boolean wasInRow = state.alarmBook.timesInRow(alarm) > 0;
        if (wasInRow) {
            state.alarmBook.confirm(alarm);
        }
        return wasInRow;
    }

    public int shelve(int alarm, int units) throws IllegalArgumentException {
        require(isOfEight(alarm) && isBetween(units, 0, MAX_PRESET));
        int before = state.alarmBook.shelvedFor[alarm];
        state.alarmBook.putAway(alarm, units);
        return before;
    }

    public boolean fail() {
        boolean takesOver = standby.inStep && standby.hasGot;
        if (takesOver) {
            state.copyFrom(standby.copy);
            standby.tookOver = true;
        } else {
            stopAll();
        }
        standby.inStep = false;
        standby.isComing = false;
        return takesOver;
    }

    public boolean come() {
        if (standby.inStep || standby.isComing) {
            return false;
        }
        standby.isComing = true;
        return true;
    }

    public int reset() {
        state.clear(now);
        standby.clear();
        stopped = false;
        plant.forgetLosses();
        plant.giveAll(outputsOf(forcedValues));
        return now;
    }

    public int bit(int bit) throws IllegalArgumentException {
        require(isBit(bit));
        return isSet(readBits(), bit) ? 1 : 0;
    }

    public int given(int output) throws IllegalArgumentException {
        require(isOfEight(output));
        return isSet(plant.outputs, output) ? 1 : 0;
    }

    public int number(int index) throws IllegalArgumentException {
        require(isOfEight(index));
        return state.numbers[index];
    }

    public int timer(int index) throws IllegalArgumentException {
        require(isOfEight(index));
        return state.timers[index];
    }

    public boolean isActive(int step) throws IllegalArgumentException {
        require(isStep(step));
        return isSet(state.active, step);
    }

    public int stepTime(int step) throws IllegalArgumentException, NoSuchElementException {
        require(isStep(step));
        if (!isSet(state.active, step)) {
            throw new NoSuchElementException();
        }
        return state.stepTimes[step];
    }

    public char alarm(int alarm) throws IllegalArgumentException {
        require(isOfEight(alarm));
        return state.alarmBook.letterOf(alarm);
    }

    public int alarms() {
        return state.alarmBook.rowLength;
    }

    public int alarmAt(int index) throws IndexOutOfBoundsException {
        if (index < 0 || index >= state.alarmBook.rowLength) {
            throw new IndexOutOfBoundsException();
        }
        return state.alarmBook.row[index];
    }

    public int time() {
        return now;
    }

    public int scans(int task) throws IllegalArgumentException {
        require(isTask(task));
        return tasks[task].scanCount;
    }

    public int missed(int task) throws IllegalArgumentException {
        require(isTask(task));
        return tasks[task].missedCount;
    }

    public boolean isStopped() {
        return stopped;
    }

    public boolean isInStep() {
        return standby.inStep;
    }

    public int rungs() {
        return code.rungCount;
    }

    public int forced() {
        return Integer.bitCount(forcedMask);
    }

    public int changes(int output) throws IllegalArgumentException {
        require(isOfEight(output));
        return plant.changeCounts[output];
    }

    public long done() {
        return doneRungs;
    }

    public float activeShare() throws ArithmeticException {
        if (code.stepCount == 0) {
            throw new ArithmeticException();
        }
        int active = Integer.bitCount(state.active & code.stepMask());
        return (float) active / (float) code.stepCount;
    }

    public double meanRungs() throws ArithmeticException {
        int all = tasks[0].scanCount + tasks[1].scanCount;
        if (all == 0) {
            throw new ArithmeticException();
        }
        return (double) doneRungs / (double) all;
    }

    public boolean isSound() {
        int allowed = code.stepMask() | 1;
        return state.alarmBook.areSound() && (state.active & ~allowed) == 0;
    }

    private static void require(boolean isRight) {
        if (!isRight) {
            throw new IllegalArgumentException();
        }
    }

    private static boolean isBetween(int value, int least, int greatest) {
        return value >= least && value <= greatest;
    }

    private static boolean isTask(int value) {
        return isBetween(value, 0, TASKS - 1);
    }

    private static boolean isOfEight(int value) {
        return isBetween(value, 0, EIGHT - 1);
    }

    private static boolean isBit(int value) {
        return isBetween(value, 0, BITS - 1);
    }

    private static boolean isWritable(int value) {
        return isBetween(value, FIRST_OUTPUT, BITS - 1);
    }

    private static boolean isStep(int value) {
        return isBetween(value, 0, MAX_STEPS - 1);
    }

    private static boolean isFirstNumber(char kind, int a) {
        switch (kind) {
            case '=':
            case 's':
            case 'r':
            case '<':
                return isWritable(a);
            case 'J':
                return true;
            default:
                return isOfEight(a);
        }
    }

    private static boolean isSecondNumber(char kind, int b) {
        switch (kind) {
            case 'T':
            case 'R':
            case 'C':
                return isBetween(b, 1, MAX_PRESET);
            case 'k':
                return isBetween(b, -MAX_PRESET, MAX_PRESET);
            case '+':
            case '<':
                return isOfEight(b);
            case 'J':
                return isBetween(b, 0, MAX_RUNGS - 1);
            default:
                return true;
        }
    }

    private static boolean isSet(int bits, int index) {
        return (bits >>> index & 1) == 1;
    }

    private static int maskOf(int index) {
        return index < 0 ? 0 : 1 << index;
    }

    private static int outputsOf(int bits) {
        return bits >>> FIRST_OUTPUT & 0xff;
    }

    private int readBits() {
        return state.bits & ~forcedMask | forcedValues;
    }

    private void keepWhatWasSeen() {
        for (int i = 0; i < MAX_RUNGS; i++) {
            int kept = 0;
            boolean holdKept = false;
            if (i < code.rungCount && i < draft.rungCount) {
                kept = sameContacts(code.rungRow[i], draft.rungRow[i]);
                holdKept = code.rungRow[i].isSameCounter(draft.rungRow[i]);
            }
            state.seen[i] &= kept;
            state.keepHolding(i, state.didHold(i) && holdKept);
        }
    }

    private static int sameContacts(Rung old, Rung next) {
        int same = 0;
        for (int i = 0; i < MAX_CONTACTS; i++) {
            if (old.hasSameContact(next, i)) {
                same |= 1 << i;
            }
        }
        return same;
    }

    private void passOneUnit() {
        now++;
        state.alarmBook.shortenShelving();
        boolean followsTakeover = standby.tookOver;
        standby.tookOver = false;
        boolean isStarted = lookAtStart();
        if (!stopped && (isStarted || tasks[1].isDueAt(now))) {
            scanTask(1);
        }
        if (!stopped && (followsTakeover || tasks[0].isDueAt(now))) {
            scanTask(0);
        }
    }

    // Looked at in each unit, also while stopped: what counts is how the bit was at the unit ahead.
    private boolean lookAtStart() {
        boolean isOne = false;
        if (start != NONE) {
            boolean isFromPlant = start < FIRST_OUTPUT && !isSet(forcedMask, start);
            isOne = isSet(isFromPlant ? plant.inputs : readBits(), start);
        }
        boolean rises = isOne && !startWasOne;
        startWasOne = isOne;
        return rises;
    }

    private void scanTask(int task) {
        state.bits = plant.localInputs(state.bits);
        if (task == 0) {
            state.bits = plant.stationInputs(state.bits);
        }
        if (code.rungCount > tasks[task].watch) {
            saved.copyFrom(state);
        }
        int elapsed = now - state.lastScans[task];
        int rungsDone = doRungs(task, elapsed);
        if (rungsDone > tasks[task].watch) {
            state.copyFrom(saved);
            countMissed(task);
            return;
        }
        if (task == 0) {
            runChart(elapsed);
        }
        plant.giveAll(outputsOf(readBits()));
        state.lastScans[task] = now;
        tasks[task].scanCount++;
        doneRungs += rungsDone;
        if (task == 0) {
            state.missedInRow = 0;
            standby.endComing();
            standby.follow(state);
        }
    }

    private void countMissed(int task) {
        tasks[task].missedCount++;
        if (task == 0) {
            state.missedInRow++;
            if (state.missedInRow >= MISSED_FOR_FAULT) {
                stopAll();
            }
        }
    }

    private void stopAll() {
        plant.giveAll(0);
        stopped = true;
    }

    // Ends at the first rung that the watch does not allow, for the scan is dropped then.
    private int doRungs(int task, int elapsed) {
        int count = 0;
        int goesOnAt = 0;
        for (int i = 0; i < code.rungCount; i++) {
            Rung rung = code.rungRow[i];
            if (rung.task == task && i >= goesOnAt) {
                count++;
                if (count > tasks[task].watch) {
                    return count;
                }
                boolean holds = lookAtContacts(i, rung);
                doRung(i, rung, holds, elapsed);
                if (rung.kind == 'J' && holds) {
                    goesOnAt = rung.b;
                }
            }
        }
        return count;
    }

    private boolean lookAtContacts(int index, Rung rung) {
        int bits = readBits();
        boolean holds = true;
        int seenNow = 0;
        for (int i = 0; i < rung.contactCount; i++) {
            boolean isOne = isSet(bits, rung.contactBits[i]);
            boolean wasOne = isSet(state.seen[index], i);
            holds = doesHold(rung.contactKinds[i], isOne, wasOne) && holds;
            if (isOne) {
                seenNow |= 1 << i;
            }
        }
        state.seen[index] = seenNow;
        return holds;
    }

    private static boolean doesHold(char kind, boolean isOne, boolean wasOne) {
        switch (kind) {
            case '1':
                return isOne;
            case '0':
                return !isOne;
            case 'u':
                return isOne && !wasOne;
            default:
                return !isOne && wasOne;
        }
    }

    private void doRung(int index, Rung rung, boolean holds, int elapsed) {
        switch (rung.kind) {
            case '=':
                state.write(rung.a, holds);
                break;
            case '<':
                state.write(rung.a, holds && state.numbers[rung.b] < state.numbers[0]);
                break;
            case 'T':
            case 'R':
            case 'C':
                runTimer(index, rung, holds, elapsed);
                break;
            case 'A':
                if (holds) {
                    state.alarmBook.appear(rung.a);
                } else {
                    state.alarmBook.vanish(rung.a);
                }
                break;
            default:
                if (holds) {
                    doIfHeld(rung);
                }
                break;
        }
    }

    private void doIfHeld(Rung rung) {
        switch (rung.kind) {
            case 's':
                state.write(rung.a, true);
                break;
            case 'r':
                state.write(rung.a, false);
                break;
            case 'Z':
                state.timers[rung.a] = 0;
                state.write(FIRST_TIMER_BIT + rung.a, false);
                break;
            case 'k':
                state.numbers[rung.a] = rung.b;
                break;
            case '+':
                state.numbers[rung.a] += state.numbers[rung.b];
                break;
            default:
                break;
        }
    }

    private void runTimer(int index, Rung rung, boolean holds, int elapsed) {
        int reached = state.timers[rung.a];
        if (rung.kind == 'C') {
            if (holds && !state.didHold(index)) {
                reached++;
            }
            state.keepHolding(index, holds);
        } else if (holds) {
            reached += elapsed;
        } else if (rung.kind == 'T') {
            reached = 0;
        }
        reached = Math.min(reached, rung.b);
        state.timers[rung.a] = reached;
        state.write(FIRST_TIMER_BIT + rung.a, reached >= rung.b);
    }

    private void runChart(int elapsed) {
        int before = state.active;
        int made = fireTransitions();
        int left = before & (~state.active | made);
        int entered = state.active & made;
        for (int i = 0; i < code.stepCount; i++) {
            if (isSet(entered, i)) {
                state.stepTimes[i] = 0;
            } else if (isSet(state.active, i)) {
                state.stepTimes[i] += elapsed;
            }
        }
        for (int i = 0; i < code.stepCount; i++) {
            if (isSet(left, i)) {
                clearActions(code.stepRow[i]);
            }
        }
        for (int i = 0; i < code.stepCount; i++) {
            if (isSet(state.active, i)) {
                doActions(code.stepRow[i], isSet(entered, i), state.stepTimes[i]);
            }
        }
    }

    private int fireTransitions() {
        int found = 0;
        int bits = readBits();
        for (int i = 0; i < code.transitionCount; i++) {
            Transition candidate = code.transitionRow[i];
            if (areActive(candidate.ahead) && isSet(bits, candidate.bit) == candidate.isOne) {
                found |= 1 << i;
            }
        }
        int made = 0;
        for (int i = 0; i < code.transitionCount; i++) {
            Transition candidate = code.transitionRow[i];
            if (isSet(found, i) && areActive(candidate.ahead)) {
                state.active = state.active & ~candidate.ahead | candidate.behind;
                made |= candidate.behind;
            }
        }
        return made;
    }

    private boolean areActive(int steps) {
        return (state.active & steps) == steps;
    }

    private void clearActions(Step step) {
        for (int i = 0; i < step.actionCount; i++) {
            char kind = step.kinds[i];
            if (kind == 'n' || kind == 'd' || kind == 'l') {
                state.write(step.bits[i], false);
            }
        }
    }

    private void doActions(Step step, boolean wasEntered, int time) {
        for (int i = 0; i < step.actionCount; i++) {
            int where = step.bits[i];
            switch (step.kinds[i]) {
                case 'n':
                    state.write(where, true);
                    break;
                case 'd':
                    state.write(where, time >= step.times[i]);
                    break;
                case 'l':
                    state.write(where, time < step.times[i]);
                    break;
                default:
                    if (wasEntered) {
                        state.write(where, step.kinds[i] == 's');
                    }
                    break;
            }
        }
    }
}
