import java.util.NoSuchElementException;

/** Calls that are refused: which exception, the first one listed where several apply, and that nothing is changed. */
public final class RefusedCallTests {
    private static final Class<?> WRONG = IllegalArgumentException.class;
    private static final Class<?> FULL = IllegalStateException.class;
    private static final Class<?> ABSENT = NoSuchElementException.class;
    private static final int LEAST = Integer.MIN_VALUE;
    private static final int GREATEST = Integer.MAX_VALUE;

    private final State state;

    private RefusedCallTests(State state) {
        this.state = state;
    }

    public static void main(String[] args) {
        for (State state : State.values()) {
            RefusedCallTests tests = new RefusedCallTests(state);
            tests.wrongRungs();
            tests.wrongNumbers();
            tests.absentOnesOfTheDraft();
            tests.wrongOnesOfTheDraft();
            tests.fullDraft();
            tests.takeOver();
            tests.questions();
            tests.timeIsOver();
        }
        Check.end();
    }

    /** The states in which calls are refused. */
    private enum State {
        NEW, RUNS, FULL, STOPPED, COMING, LATE;

        Rungmaster make() {
            Rungmaster x = new Rungmaster();
            switch (this) {
                case NEW:
                    break;
                case FULL:
                    tellAll(x);
                    x.takeOver();
                    x.pass(25);
                    break;
                case LATE:
                    x.setPeriod(0, 100);
                    for (int i = 0; i < 499; i++) {
                        x.pass(200);
                    }
                    x.pass(199);
                    break;
                default:
                    tellSome(x);
                    break;
            }
            if (this == STOPPED || this == COMING) {
                x.fail();
                x.come();
            }
            if (this == STOPPED) {
                x.fail();
            }
            return x;
        }

        boolean hasSome() {
            return this == RUNS || this == STOPPED || this == COMING;
        }
    }

    /** The draft has a rung 0 and the steps 0 and 1, which are not full; the step 1 is active. */
    private static void tellSome(Rungmaster x) {
        x.step();
        x.step();
        x.action(0, 'n', 9, 0);
        x.transition(0, -1, 1, -1, 1, true);
        x.rung(0, 'A', 0, 0);
        x.rung(0, 'A', 2, 0);
        int edge = x.rung(0, '+', 1, 2);
        x.contact(edge, 'u', 1);
        x.rung(0, 'k', 2, 1);
        x.rung(1, 'C', 3, 99);
        x.rung(0, 's', 8, 0);
        x.takeOver();
        x.setInput(1, true);
        x.force(20, 1);
        x.setStart(1);
        x.setWatch(0, 39);
        x.setHold(4);
        x.pass(25);
        x.shelve(1, 500);
        x.lose(4);
        x.pass(10);
    }

    private static void tellAll(Rungmaster x) {
        for (int i = 0; i < 40; i++) {
            x.rung(i % 2, i < 8 ? 'A' : '=', i < 8 ? i : 8 + i % 8, 0);
            for (int k = 0; k < 4; k++) {
                x.contact(i, '0', (i + k) % 8);
            }
        }
        for (int i = 0; i < 12; i++) {
            x.step();
            for (int k = 0; k < 3; k++) {
                x.action(i, 'n', 16 + i % 8, 0);
            }
        }
        for (int i = 0; i < 16; i++) {
            x.transition(i % 12, -1, (i + 1) % 12, -1, i % 8, false);
        }
    }

    private interface Call {
        void on(Rungmaster x);
    }

    private interface CallWith {
        void on(Rungmaster x, int value);
    }

    private void refused(String what, Class<?> due, Call call) {
        String name = state + ": " + what;
        for (int kind = 0; kind < Probe.KINDS; kind++) {
            Rungmaster x = state.make();
            Rungmaster twin = state.make();
            Check.raises(name, due, () -> call.on(x));
            Check.same(name + " changes nothing", Probe.ask(kind, x), Probe.ask(kind, twin));
        }
    }

    /** Beside the values told, the least and the greatest int. */
    private void wrong(String what, CallWith call, int... values) {
        refused(what + LEAST, WRONG, x -> call.on(x, LEAST));
        refused(what + GREATEST, WRONG, x -> call.on(x, GREATEST));
        for (int value : values) {
            refused(what + value, WRONG, x -> call.on(x, value));
        }
    }

    /** The draft may be full, too: a wrong rung is named first. */
    private void wrongRungs() {
        wrong("rung task ", (x, v) -> x.rung(v, '=', 8, 0), -1, 2);
        for (char kind : new char[] {(char) 0, ' ', 'S', 't', 'c', 'q', 'j', 'a', '>', '-', (char) 255, (char) 65535}) {
            refused("rung kind " + (int) kind, WRONG, x -> x.rung(0, kind, 8, 1));
        }
        for (char kind : "=sr<".toCharArray()) {
            wrong("rung " + kind + " a ", (x, v) -> x.rung(0, kind, v, 0), -1, 0, 7, 32);
        }
        for (char kind : "TRCZk+A".toCharArray()) {
            wrong("rung " + kind + " a ", (x, v) -> x.rung(1, kind, v, 1), -1, 8);
        }
        for (char kind : "TRC".toCharArray()) {
            wrong("rung " + kind + " b ", (x, v) -> x.rung(0, kind, 0, v), -1, 0, 1000);
        }
        wrong("rung k b ", (x, v) -> x.rung(0, 'k', 0, v), -1000, 1000);
        wrong("rung + b ", (x, v) -> x.rung(0, '+', 0, v), -1, 8);
        wrong("rung < b ", (x, v) -> x.rung(0, '<', 8, v), -1, 8);
        wrong("rung J b ", (x, v) -> x.rung(0, 'J', 0, v), -1, 40);
    }

    private void wrongNumbers() {
        wrong("setInput ", (x, v) -> x.setInput(v, true), -1, 8);
        wrong("force bit ", (x, v) -> x.force(v, 1), -1, 32);
        wrong("force value ", (x, v) -> x.force(8, v), -2, 2);
        wrong("setPeriod task ", (x, v) -> x.setPeriod(v, 5), -1, 2);
        wrong("setPeriod period ", (x, v) -> x.setPeriod(1, v), -1, 101);
        wrong("setStart ", (x, v) -> x.setStart(v), -2, 32);
        wrong("setWatch task ", (x, v) -> x.setWatch(v, 5), -1, 2);
        wrong("setWatch rungs ", (x, v) -> x.setWatch(1, v), -1, 0, 41);
        wrong("lose ", (x, v) -> x.lose(v), -1, 0, 21);
        wrong("setHold ", (x, v) -> x.setHold(v), -1, 10);
        wrong("pass ", (x, v) -> x.pass(v), -1, 0, 201);
        wrong("acknowledge ", (x, v) -> x.acknowledge(v), -1, 8);
        wrong("shelve alarm ", (x, v) -> x.shelve(v, 5), -1, 8);
        wrong("shelve units ", (x, v) -> x.shelve(0, v), -1, 1000);
    }

    private void absentOnesOfTheDraft() {
        for (int number : new int[] {LEAST, -1, 40, GREATEST}) {
            refused("contact of the rung " + number, ABSENT, x -> x.contact(number, '1', 0));
            refused("contact, all wrong", ABSENT, x -> x.contact(number, 'x', -1));
        }
        for (int number : new int[] {LEAST, -1, 12, GREATEST}) {
            refused("action of the step " + number, ABSENT, x -> x.action(number, 'n', 8, 0));
            refused("action, all wrong", ABSENT, x -> x.action(number, 'x', 7, 0));
            refused("transition first " + number, ABSENT, x -> x.transition(number, 0, 0, 1, 0, true));
            refused("transition third " + number, ABSENT, x -> x.transition(0, 1, number, 0, 0, true));
            refused("transition, all wrong", ABSENT, x -> x.transition(number, number, 0, 0, 32, true));
        }
        for (int number : new int[] {LEAST, -2, 12, GREATEST}) {
            refused("transition second " + number, ABSENT, x -> x.transition(0, number, 0, -1, 0, true));
            refused("transition fourth " + number, ABSENT, x -> x.transition(0, -1, 0, number, 0, true));
            refused("transition, all wrong", ABSENT, x -> x.transition(0, 0, 0, number, 32, true));
        }
        if (state == State.NEW || state == State.LATE) {
            refused("contact", ABSENT, x -> x.contact(0, '1', 0));
            refused("action", ABSENT, x -> x.action(0, 'n', 8, 0));
            refused("transition", ABSENT, x -> x.transition(0, -1, 0, -1, 0, true));
        }
        if (state.hasSome()) {
            refused("contact of the rung 6", ABSENT, x -> x.contact(6, '1', 0));
            refused("action of the step 2", ABSENT, x -> x.action(2, 'n', 8, 0));
            refused("transition from the step 2", ABSENT, x -> x.transition(2, -1, 0, -1, 0, true));
            refused("transition to the step 2", ABSENT, x -> x.transition(0, -1, 1, 2, 0, true));
        }
    }

    /** Where the draft is full, the wrong argument is named first. */
    private void wrongOnesOfTheDraft() {
        if (!state.hasSome() && state != State.FULL) {
            return;
        }
        for (char kind : new char[] {(char) 0, '2', '/', 'U', 'D', 'x', (char) 65535}) {
            refused("contact kind " + (int) kind, WRONG, x -> x.contact(0, kind, 0));
        }
        wrong("contact bit ", (x, v) -> x.contact(0, '1', v), -1, 32);
        for (char kind : new char[] {(char) 0, 'N', 'x', '=', 'u', (char) 65535}) {
            refused("action kind " + (int) kind, WRONG, x -> x.action(1, kind, 8, 5));
        }
        for (char kind : "nsrdl".toCharArray()) {
            wrong("action bit ", (x, v) -> x.action(1, kind, v, 5), -1, 0, 7, 32);
        }
        wrong("action d time ", (x, v) -> x.action(1, 'd', 8, v), -1, 0, 1000);
        wrong("action l time ", (x, v) -> x.action(1, 'l', 8, v), -1, 0, 1000);
        wrong("transition bit ", (x, v) -> x.transition(0, -1, 1, -1, v, true), -1, 32);
        refused("transition from one twice", WRONG, x -> x.transition(1, 1, 0, -1, 0, true));
        refused("transition to one twice", WRONG, x -> x.transition(0, 1, 1, 1, 0, false));
    }

    private void fullDraft() {
        if (state != State.FULL) {
            return;
        }
        for (char kind : "TRCZk+A".toCharArray()) {
            refused("rung " + kind, FULL, x -> x.rung(0, kind, 0, 1));
        }
        for (char kind : "=sr<J".toCharArray()) {
            refused("rung " + kind, FULL, x -> x.rung(1, kind, 31, 1));
        }
        for (int number = 0; number < 40; number += 39) {
            int rung = number;
            refused("contact of the rung " + rung, FULL, x -> x.contact(rung, 'd', 31));
        }
        refused("step", FULL, x -> x.step());
        for (int number = 0; number < 12; number += 11) {
            int step = number;
            refused("action of the step " + step, FULL, x -> x.action(step, 'd', 8, 1));
        }
        refused("transition", FULL, x -> x.transition(10, 11, 0, 1, 31, false));
    }

    private void takeOver() {
        if (!state.hasSome()) {
            return;
        }
        String[] drafts = {"empty", "without the step 1", "with rungs alone"};
        for (int i = 0; i < drafts.length; i++) {
            for (int kind = 0; kind < Probe.KINDS; kind++) {
                Rungmaster x = withDraft(i);
                Rungmaster twin = withDraft(i);
                Check.raises("draft " + drafts[i], UnsupportedOperationException.class, x::takeOver);
                Check.same("a refused draft changes nothing", Probe.ask(kind, x), Probe.ask(kind, twin));
            }
        }
    }

    private Rungmaster withDraft(int which) {
        Rungmaster x = state.make();
        x.emptyDraft();
        if (which == 1) {
            x.step();
        }
        if (which == 2) {
            x.rung(0, 'k', 0, 0);
        }
        return x;
    }

    private void questions() {
        wrong("bit ", (x, v) -> x.bit(v), -1, 32);
        wrong("given ", (x, v) -> x.given(v), -1, 8);
        wrong("number ", (x, v) -> x.number(v), -1, 8);
        wrong("timer ", (x, v) -> x.timer(v), -1, 8);
        wrong("isActive ", (x, v) -> x.isActive(v), -1, 12);
        wrong("stepTime ", (x, v) -> x.stepTime(v), -1, 12);
        wrong("alarm ", (x, v) -> x.alarm(v), -1, 8);
        wrong("scans ", (x, v) -> x.scans(v), -1, 2);
        wrong("missed ", (x, v) -> x.missed(v), -1, 2);
        wrong("changes ", (x, v) -> x.changes(v), -1, 8);
        for (int index : new int[] {LEAST, -1, state.make().alarms(), 8, GREATEST}) {
            refused("alarmAt " + index, IndexOutOfBoundsException.class, x -> x.alarmAt(index));
        }
        refused("stepTime of a step that is not active", ABSENT, x -> x.stepTime(5));
        if (state == State.NEW) {
            refused("meanRungs", ArithmeticException.class, x -> x.meanRungs());
        }
        if (state == State.NEW || state == State.LATE) {
            refused("activeShare", ArithmeticException.class, x -> x.activeShare());
        }
    }

    private void timeIsOver() {
        if (state == State.LATE) {
            for (int units = 1; units <= 200; units += 199) {
                int more = units;
                refused("pass " + more, FULL, x -> x.pass(more));
            }
        }
    }
}
