import java.util.NoSuchElementException;

/** Wrong inputs of every method that throws: which exception, and that nothing is changed by it. */
public final class WrongInputTests {
    private static final int[] FAR = {Integer.MIN_VALUE, Integer.MAX_VALUE};

    public static void main(String[] args) {
        wrongNumbersAlone();
        greatestAndLeast();
        nothingIsChanged();
        Check.end();
    }

    private interface Call {
        void on(Rungmaster x, int value);
    }

    private static void refused(String what, Call call, int... values) {
        Rungmaster x = busy();
        Rungmaster twin = busy();
        Class<?> due = what.equals("alarmAt") ? IndexOutOfBoundsException.class : IllegalArgumentException.class;
        for (int value : values) {
            Check.raises(what + " " + value, due, () -> call.on(x, value));
        }
        for (int value : FAR) {
            Check.raises(what + " " + value, due, () -> call.on(x, value));
        }
        Check.same("nothing is changed by " + what, story(x), story(twin));
    }

    private static void wrongNumbersAlone() {
        refused("setInput", (x, v) -> x.setInput(v, true), -1, 8);
        refused("force bit", (x, v) -> x.force(v, 1), -1, 32);
        refused("force value", (x, v) -> x.force(8, v), -2, 2);
        refused("setPeriod task", (x, v) -> x.setPeriod(v, 5), -1, 2);
        refused("setPeriod period", (x, v) -> x.setPeriod(0, v), -1, 101);
        refused("setStart", (x, v) -> x.setStart(v), -2, 32);
        refused("setWatch task", (x, v) -> x.setWatch(v, 5), -1, 2);
        refused("setWatch rungs", (x, v) -> x.setWatch(0, v), -1, 0, 41);
        refused("lose", (x, v) -> x.lose(v), -1, 0, 21);
        refused("setHold", (x, v) -> x.setHold(v), -1, 10);
        refused("pass", (x, v) -> x.pass(v), -1, 0, 201);
        refused("acknowledge", (x, v) -> x.acknowledge(v), -1, 8);
        refused("shelve alarm", (x, v) -> x.shelve(v, 5), -1, 8);
        refused("shelve units", (x, v) -> x.shelve(0, v), -1, 1000);
        refused("bit", (x, v) -> x.bit(v), -1, 32);
        refused("given", (x, v) -> x.given(v), -1, 8);
        refused("number", (x, v) -> x.number(v), -1, 8);
        refused("timer", (x, v) -> x.timer(v), -1, 8);
        refused("isActive", (x, v) -> x.isActive(v), -1, 12);
        refused("stepTime", (x, v) -> x.stepTime(v), -1, 12);
        refused("alarm", (x, v) -> x.alarm(v), -1, 8);
        refused("alarmAt", (x, v) -> x.alarmAt(v), -1, 2);
        refused("scans", (x, v) -> x.scans(v), -1, 2);
        refused("missed", (x, v) -> x.missed(v), -1, 2);
        refused("changes", (x, v) -> x.changes(v), -1, 8);
    }

    private static void greatestAndLeast() {
        Rungmaster x = busy();
        Check.same("setPeriod", x.setPeriod(0, 100), 10);
        Check.same("setPeriod", x.setPeriod(0, 0), 100);
        Check.same("setStart", x.setStart(31), 3);
        Check.same("setStart", x.setStart(0), 31);
        Check.same("setWatch", x.setWatch(0, 40), 39);
        Check.same("setWatch", x.setWatch(0, 1), 40);
        Check.same("lose", x.lose(20), 3);
        Check.same("lose", x.lose(1), 20);
        Check.same("setHold", x.setHold(9), 4);
        Check.same("setHold", x.setHold(0), 9);
        Check.same("pass", x.pass(200), 235);
        Check.same("pass", x.pass(1), 236);
        Check.same("shelve", x.shelve(7, 999), 0);
        Check.same("shelve", x.shelve(7, 1), 999);
        Check.same("scans", x.scans(0) + x.missed(1), 3);
        Check.same("changes", x.changes(7), 0);
        Check.same("number", x.number(7) + x.timer(7), 0);
    }

    private static Rungmaster busy() {
        Rungmaster x = new Rungmaster();
        x.step();
        x.step();
        x.action(0, 'n', 9, 0);
        x.transition(0, -1, 1, -1, 4, true);
        x.rung(0, 'A', 0, 0);
        x.rung(0, 'A', 2, 0);
        int edge = x.rung(0, '+', 1, 2);
        x.contact(edge, 'u', 1);
        x.rung(0, 'k', 2, 1);
        x.rung(1, 'C', 3, 99);
        x.rung(0, 's', 8, 0);
        x.takeOver();
        x.setInput(1, true);
        x.force(20, 1);
        x.setStart(3);
        x.setWatch(0, 39);
        x.setHold(4);
        x.pass(25);
        x.shelve(1, 500);
        x.lose(4);
        x.pass(10);
        return x;
    }

    /** What is seen now, and what comes of the draft, the settings and the standby later. */
    private static String story(Rungmaster x) {
        StringBuilder text = new StringBuilder(Look.at(x));
        text.append('\n').append(x.takeOver()).append(x.step()).append(x.rung(0, '=', 15, 0));
        x.setInput(3, true);
        x.setInput(4, true);
        x.pass(1);
        text.append('\n').append(Look.at(x));
        x.pass(29);
        text.append('\n').append(Look.at(x));
        text.append(x.fail());
        x.pass(1);
        text.append('\n').append(Look.at(x));
        x.emptyDraft();
        x.step();
        x.step();
        text.append(x.takeOver()).append(x.lose(1)).append(x.setHold(1)).append(x.setStart(1));
        text.append(x.setPeriod(0, 1)).append(x.setPeriod(1, 1)).append(x.setWatch(0, 1)).append(x.setWatch(1, 1));
        for (int i = 0; i < 8; i++) {
            text.append(x.shelve(i, 0)).append(x.setInput(i, false)).append(x.acknowledge(i));
        }
        return text.append('\n').append(Look.at(x)).toString();
    }

    private static void nothingIsChanged() {
        Rungmaster x = busy();
        Rungmaster twin = busy();
        Check.raises("rung", IllegalArgumentException.class, () -> x.rung(0, '=', 7, 0));
        Check.raises("contact", NoSuchElementException.class, () -> x.contact(6, '1', 0));
        Check.raises("contact", IllegalArgumentException.class, () -> x.contact(0, '1', 32));
        Check.raises("contact", IllegalArgumentException.class, () -> x.contact(0, '2', 3));
        Check.raises("action", NoSuchElementException.class, () -> x.action(2, 'n', 8, 0));
        Check.raises("action", IllegalArgumentException.class, () -> x.action(0, 'n', 5, 0));
        Check.raises("action", IllegalArgumentException.class, () -> x.action(0, 'd', 8, 1000));
        Check.raises("transition", NoSuchElementException.class, () -> x.transition(0, -1, 2, -1, 0, true));
        Check.raises("transition", IllegalArgumentException.class, () -> x.transition(0, -1, 1, 1, 0, false));
        Check.raises("stepTime", NoSuchElementException.class, () -> x.stepTime(1));
        Check.same("nothing is changed", story(x), story(twin));
        fullDraft(x);
        fullDraft(twin);
        Check.raises("rung", IllegalStateException.class, () -> x.rung(0, 's', 14, 0));
        Check.raises("contact", IllegalStateException.class, () -> x.contact(39, '0', 0));
        Check.raises("step", IllegalStateException.class, x::step);
        Check.raises("action", IllegalStateException.class, () -> x.action(11, 'n', 14, 0));
        Check.raises("transition", IllegalStateException.class, () -> x.transition(0, -1, 1, -1, 0, false));
        Check.same("nothing is changed", story2(x), story2(twin));
    }

    private static void fullDraft(Rungmaster x) {
        x.emptyDraft();
        for (int i = 0; i < 40; i++) {
            x.rung(0, '=', 8 + i % 8, 0);
            for (int k = 0; k < 4; k++) {
                x.contact(i, '1', 8 + (i + k) % 8);
            }
        }
        for (int i = 0; i < 12; i++) {
            x.step();
            for (int k = 0; k < 3; k++) {
                x.action(i, 'n', 16 + i % 8, 0);
            }
        }
        for (int i = 0; i < 16; i++) {
            x.transition(i % 12, -1, (i + 1) % 12, -1, i, false);
        }
    }

    private static String story2(Rungmaster x) {
        StringBuilder text = new StringBuilder();
        text.append(x.takeOver());
        x.setWatch(0, 40);
        for (int i = 0; i < 20; i++) {
            x.pass(1);
            text.append('\n').append(Look.at(x));
        }
        return text.append(x.emptyDraft()).toString();
    }
}
