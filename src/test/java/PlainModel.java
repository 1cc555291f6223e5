import java.util.ArrayList;
import java.util.List;
import java.util.TreeMap;
import java.util.TreeSet;

/**
 * The document once more, in its plainest form: lists, sets and fresh copies in place of rows and masks.
 * It takes right calls only; RandomRunTests compares it with the program.
 */
final class PlainModel {
    static final class Contact {
        char kind;
        int bit;
    }

    static final class Rung {
        int task;
        char kind;
        int a;
        int b;
        List<Contact> contacts = new ArrayList<>();
    }

    static final class Action {
        char kind;
        int bit;
        int time;
    }

    static final class Transition {
        List<Integer> ahead = new ArrayList<>();
        List<Integer> behind = new ArrayList<>();
        int bit;
        int value;
    }

    static final class Code {
        List<Rung> rungs = new ArrayList<>();
        List<List<Action>> steps = new ArrayList<>();
        List<Transition> transitions = new ArrayList<>();

        Code copy() {
            Code other = new Code();
            for (Rung rung : rungs) {
                Rung r = new Rung();
                r.task = rung.task;
                r.kind = rung.kind;
                r.a = rung.a;
                r.b = rung.b;
                r.contacts.addAll(rung.contacts);
                other.rungs.add(r);
            }
            for (List<Action> step : steps) {
                other.steps.add(new ArrayList<>(step));
            }
            other.transitions.addAll(transitions);
            return other;
        }
    }

    static final class State {
        int[] bits = new int[32];
        int[] numbers = new int[8];
        int[] timers = new int[8];
        TreeMap<Integer, Integer> steps = new TreeMap<>();
        TreeSet<Integer> there = new TreeSet<>();
        TreeSet<Integer> acknowledged = new TreeSet<>();
        TreeMap<Integer, Integer> shelved = new TreeMap<>();
        List<Integer> row = new ArrayList<>();
        TreeSet<String> saw = new TreeSet<>();
        TreeSet<Integer> held = new TreeSet<>();
        int[] last = new int[2];
        int missedInRow;

        State(int time) {
            steps.put(0, 0);
            last[0] = time;
            last[1] = time;
        }

        State copy() {
            State other = new State(0);
            other.bits = bits.clone();
            other.numbers = numbers.clone();
            other.timers = timers.clone();
            other.steps = new TreeMap<>(steps);
            other.there = new TreeSet<>(there);
            other.acknowledged = new TreeSet<>(acknowledged);
            other.shelved = new TreeMap<>(shelved);
            other.row = new ArrayList<>(row);
            other.saw = new TreeSet<>(saw);
            other.held = new TreeSet<>(held);
            other.last = last.clone();
            other.missedInRow = missedInRow;
            return other;
        }

        void leaveRow(int alarm) {
            row.remove(Integer.valueOf(alarm));
            acknowledged.remove(alarm);
        }
    }

    Code code = new Code();
    Code draft = new Code();
    State s = new State(0);
    State standby;
    boolean inStep = true;
    boolean coming;
    boolean stopped;
    int tookOverAt = -5;
    int time;
    TreeMap<Integer, Integer> forced = new TreeMap<>();
    int[] plant = new int[8];
    int[] given = new int[8];
    int[] changes = new int[8];
    int[] period = {10, 0};
    int[] watch = {40, 40};
    int[] scans = new int[2];
    int[] missed = new int[2];
    long done;
    int start = -1;
    int startWas;
    int toLose;
    int lostInRow;
    int hold = 2;

    int read(int bit) {
        Integer f = forced.get(bit);
        return f != null ? f : s.bits[bit];
    }

    void give(int output, int value) {
        if (given[output] != value) {
            changes[output]++;
            given[output] = value;
        }
    }

    void stop() {
        for (int i = 0; i < 8; i++) {
            give(i, 0);
        }
        stopped = true;
    }

    void toStandby() {
        if (inStep) {
            standby = s.copy();
        }
    }

    int takeOver() {
        for (int step : s.steps.keySet()) {
            boolean isAllowed = step < draft.steps.size() || step == 0 && code.steps.isEmpty();
            if (!isAllowed) {
                return -1;
            }
        }
        TreeSet<String> saw = new TreeSet<>();
        TreeSet<Integer> held = new TreeSet<>();
        for (int i = 0; i < Math.min(code.rungs.size(), draft.rungs.size()); i++) {
            Rung old = code.rungs.get(i);
            Rung next = draft.rungs.get(i);
            for (int k = 0; k < Math.min(old.contacts.size(), next.contacts.size()); k++) {
                Contact c = old.contacts.get(k);
                Contact d = next.contacts.get(k);
                if (c.kind == d.kind && c.bit == d.bit && s.saw.contains(i + "/" + k)) {
                    saw.add(i + "/" + k);
                }
            }
            if (old.kind == 'C' && next.kind == 'C' && old.a == next.a && s.held.contains(i)) {
                held.add(i);
            }
        }
        s.saw = saw;
        s.held = held;
        code = draft.copy();
        toStandby();
        return code.rungs.size();
    }

    void pass(int units) {
        for (int i = 0; i < units; i++) {
            unit();
        }
    }

    private void unit() {
        time++;
        for (int alarm : new ArrayList<>(s.shelved.keySet())) {
            int left = s.shelved.get(alarm) - 1;
            if (left > 0) {
                s.shelved.put(alarm, left);
            } else {
                endShelving(alarm);
            }
        }
        int is = 0;
        if (start >= 0) {
            is = start < 8 && !forced.containsKey(start) ? plant[start] : read(start);
        }
        boolean starts = is == 1 && startWas == 0;
        startWas = is;
        if (!stopped && (starts || period[1] != 0 && time % period[1] == 0)) {
            scan(1);
        }
        if (!stopped && (time == tookOverAt + 1 || period[0] != 0 && time % period[0] == 0)) {
            scan(0);
        }
    }

    private void endShelving(int alarm) {
        s.shelved.remove(alarm);
        if (s.there.contains(alarm) && !s.row.contains(alarm)) {
            s.row.add(alarm);
        }
    }

    private void scan(int task) {
        for (int i = 0; i < 4; i++) {
            s.bits[i] = plant[i];
        }
        if (task == 0) {
            boolean lost = toLose > 0;
            lostInRow = lost ? lostInRow + 1 : 0;
            toLose = lost ? toLose - 1 : 0;
            for (int i = 4; i < 8; i++) {
                if (!lost) {
                    s.bits[i] = plant[i];
                } else if (lostInRow > hold) {
                    s.bits[i] = 0;
                }
            }
        }
        State before = s.copy();
        int count = 0;
        int i = 0;
        while (i < code.rungs.size()) {
            Rung rung = code.rungs.get(i);
            int next = i + 1;
            if (rung.task == task) {
                count++;
                boolean holds = look(i, rung);
                doRung(i, rung, holds, time - s.last[task]);
                if (rung.kind == 'J' && holds && rung.b > i) {
                    next = rung.b;
                }
            }
            i = next;
        }
        if (count > watch[task]) {
            s = before;
            missed[task]++;
            if (task == 0) {
                s.missedInRow++;
                if (s.missedInRow == 3) {
                    stop();
                }
            }
            return;
        }
        if (task == 0) {
            chart(time - s.last[0]);
        }
        for (int k = 0; k < 8; k++) {
            give(k, read(8 + k));
        }
        scans[task]++;
        done += count;
        s.last[task] = time;
        if (task == 0) {
            s.missedInRow = 0;
            inStep = inStep || coming;
            coming = false;
            toStandby();
        }
    }

    private boolean look(int index, Rung rung) {
        int held = 0;
        for (int k = 0; k < rung.contacts.size(); k++) {
            Contact c = rung.contacts.get(k);
            int is = read(c.bit);
            int was = s.saw.contains(index + "/" + k) ? 1 : 0;
            if (c.kind == '1' && is == 1 || c.kind == '0' && is == 0
                || c.kind == 'u' && is > was || c.kind == 'd' && is < was) {
                held++;
            }
            if (is == 1) {
                s.saw.add(index + "/" + k);
            } else {
                s.saw.remove(index + "/" + k);
            }
        }
        return held == rung.contacts.size();
    }

    private void doRung(int index, Rung rung, boolean holds, int elapsed) {
        int a = rung.a;
        int b = rung.b;
        if (rung.kind == '=') {
            s.bits[a] = holds ? 1 : 0;
        } else if (rung.kind == 's' && holds) {
            s.bits[a] = 1;
        } else if (rung.kind == 'r' && holds) {
            s.bits[a] = 0;
        } else if (rung.kind == '<') {
            s.bits[a] = holds && s.numbers[b] < s.numbers[0] ? 1 : 0;
        } else if (rung.kind == 'k' && holds) {
            s.numbers[a] = b;
        } else if (rung.kind == '+' && holds) {
            s.numbers[a] = s.numbers[a] + s.numbers[b];
        } else if (rung.kind == 'Z' && holds) {
            s.timers[a] = 0;
            s.bits[24 + a] = 0;
        } else if (rung.kind == 'T') {
            s.timers[a] = holds ? s.timers[a] + elapsed : 0;
        } else if (rung.kind == 'R' && holds) {
            s.timers[a] = s.timers[a] + elapsed;
        } else if (rung.kind == 'C') {
            if (holds && s.held.add(index)) {
                s.timers[a]++;
            }
            if (!holds) {
                s.held.remove(index);
            }
        } else if (rung.kind == 'A') {
            alarm(a, holds);
        }
        if (rung.kind == 'T' || rung.kind == 'R' || rung.kind == 'C') {
            s.timers[a] = s.timers[a] > b ? b : s.timers[a];
            s.bits[24 + a] = s.timers[a] == b ? 1 : 0;
        }
    }

    private void alarm(int alarm, boolean comes) {
        if (comes && s.there.add(alarm)) {
            if (!s.shelved.containsKey(alarm) && !s.row.contains(alarm)) {
                s.row.add(alarm);
            }
        } else if (!comes) {
            s.there.remove(alarm);
            if (s.acknowledged.contains(alarm)) {
                s.leaveRow(alarm);
            }
        }
    }

    private void chart(int elapsed) {
        TreeSet<Integer> ahead = new TreeSet<>(s.steps.keySet());
        TreeSet<Integer> now = new TreeSet<>(ahead);
        TreeSet<Integer> made = new TreeSet<>();
        List<Transition> found = new ArrayList<>();
        for (Transition t : code.transitions) {
            if (now.containsAll(t.ahead) && read(t.bit) == t.value) {
                found.add(t);
            }
        }
        for (Transition t : found) {
            if (now.containsAll(t.ahead)) {
                now.removeAll(t.ahead);
                now.addAll(t.behind);
                made.addAll(t.behind);
            }
        }
        for (int step = 0; step < code.steps.size(); step++) {
            boolean isLeft = ahead.contains(step) && (!now.contains(step) || made.contains(step));
            if (isLeft) {
                for (Action action : code.steps.get(step)) {
                    if (action.kind != 's' && action.kind != 'r') {
                        s.bits[action.bit] = 0;
                    }
                }
            }
        }
        TreeMap<Integer, Integer> times = new TreeMap<>();
        for (int step : now) {
            int old = s.steps.getOrDefault(step, 0);
            boolean grows = step < code.steps.size();
            times.put(step, made.contains(step) ? 0 : grows ? old + elapsed : old);
        }
        s.steps = times;
        for (int step = 0; step < code.steps.size(); step++) {
            if (now.contains(step)) {
                for (Action action : code.steps.get(step)) {
                    act(action, made.contains(step), times.get(step));
                }
            }
        }
    }

    private void act(Action action, boolean entered, int stepTime) {
        if (action.kind == 'n' || action.kind == 's' && entered) {
            s.bits[action.bit] = 1;
        } else if (action.kind == 'r' && entered) {
            s.bits[action.bit] = 0;
        } else if (action.kind == 'd') {
            s.bits[action.bit] = stepTime >= action.time ? 1 : 0;
        } else if (action.kind == 'l') {
            s.bits[action.bit] = stepTime < action.time ? 1 : 0;
        }
    }

    boolean acknowledge(int alarm) {
        if (!s.row.contains(alarm)) {
            return false;
        }
        if (s.there.contains(alarm)) {
            s.acknowledged.add(alarm);
        } else {
            s.leaveRow(alarm);
        }
        return true;
    }

    int shelve(int alarm, int units) {
        int left = s.shelved.getOrDefault(alarm, 0);
        if (units == 0) {
            endShelving(alarm);
        } else {
            s.shelved.put(alarm, units);
            s.leaveRow(alarm);
        }
        return left;
    }

    boolean fail() {
        boolean takes = inStep && standby != null;
        if (takes) {
            s = standby.copy();
            tookOverAt = time;
        } else {
            stop();
        }
        inStep = false;
        coming = false;
        return takes;
    }

    boolean come() {
        boolean comes = !inStep && !coming;
        coming = coming || comes;
        return comes;
    }

    void reset() {
        s = new State(time);
        standby = null;
        inStep = true;
        coming = false;
        stopped = false;
        tookOverAt = -5;
        toLose = 0;
        lostInRow = 0;
        for (int i = 0; i < 8; i++) {
            give(i, forced.getOrDefault(8 + i, 0));
        }
    }

    /** As Look.at tells it of a Rungmaster. */
    String look() {
        StringBuilder text = new StringBuilder("time " + time + " bits ");
        for (int i = 0; i < 32; i++) {
            text.append(read(i));
        }
        text.append(" given ");
        for (int value : given) {
            text.append(value);
        }
        append(text, " changes", changes);
        append(text, " numbers", s.numbers);
        append(text, " timers", s.timers);
        text.append(" steps");
        s.steps.forEach((step, stepTime) -> text.append(' ').append(step).append('@').append(stepTime));
        text.append(" alarms ");
        for (int i = 0; i < 8; i++) {
            text.append(letter(i));
        }
        append(text, " row", s.row.stream().mapToInt(i -> i).toArray());
        append(text, " scans", scans);
        append(text, " missed", missed);
        text.append(stopped ? " stopped" : " runs").append(inStep ? " in step" : " out of step");
        text.append(" rungs " + code.rungs.size() + " forced " + forced.size() + " done " + done);
        if (scans[0] + scans[1] > 0) {
            text.append(" mean " + (double) done / (double) (scans[0] + scans[1]));
        }
        if (code.steps.isEmpty()) {
            text.append(" no steps");
        } else {
            text.append(" share " + (float) s.steps.size() / (float) code.steps.size());
        }
        return text.append(" sound").toString();
    }

    private char letter(int alarm) {
        if (s.shelved.containsKey(alarm)) {
            return 's';
        }
        if (s.there.contains(alarm)) {
            return s.acknowledged.contains(alarm) ? 'a' : 't';
        }
        return s.row.contains(alarm) ? 'r' : 'n';
    }

    private static void append(StringBuilder text, String name, int[] values) {
        text.append(name);
        for (int value : values) {
            text.append(' ').append(value);
        }
    }
}
