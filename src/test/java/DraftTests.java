import java.util.NoSuchElementException;

/** Promises 1 to 8 and 36: a new object, and what is told to a draft and taken over. */
public final class DraftTests {
    public static void main(String[] args) {
        newObject();
        rungNumbers();
        rungRanges();
        rungLimit();
        contactAnswers();
        stepLimit();
        actionAnswers();
        transitionAnswers();
        emptying();
        draftStaysBehindTakeOver();
        takeOverLooksAtActiveSteps();
        Check.end();
    }

    private static void newObject() {
        Rungmaster x = new Rungmaster();
        Check.same("new", Look.at(x), "time 0 bits 00000000000000000000000000000000 given 00000000"
            + " changes 0 0 0 0 0 0 0 0 numbers 0 0 0 0 0 0 0 0 timers 0 0 0 0 0 0 0 0 steps 0@0"
            + " alarms nnnnnnnn row scans 0 0 missed 0 0 runs in step rungs 0 forced 0 done 0 no steps sound");
        Check.same("setPeriod 0", x.setPeriod(0, 10), 10);
        Check.same("setPeriod 1", x.setPeriod(1, 0), 0);
        Check.same("setWatch 0", x.setWatch(0, 40), 40);
        Check.same("setWatch 1", x.setWatch(1, 40), 40);
        Check.same("setStart", x.setStart(-1), -1);
        Check.same("setHold", x.setHold(2), 2);
        Check.same("lose", x.lose(1), 0);
        Check.same("emptyDraft", x.emptyDraft(), 0);
        Check.same("come", x.come(), false);
    }

    private static void rungNumbers() {
        Rungmaster x = new Rungmaster();
        Check.same("rung", x.rung(0, '=', 8, 0), 0);
        Check.same("rung", x.rung(1, 'J', 0, 0), 1);
        Check.same("code has none yet", x.rungs(), 0);
        Check.same("takeOver", x.takeOver(), 2);
        Check.same("rungs", x.rungs(), 2);
        Check.same("rung behind takeOver", x.rung(0, 's', 31, 0), 2);
        Check.same("code is as it was", x.rungs(), 2);
    }

    private static void rungRanges() {
        String kinds = "=srTRCZk+<JA";
        for (int i = 0; i < kinds.length(); i++) {
            char kind = kinds.charAt(i);
            int leastA = "=sr<".indexOf(kind) >= 0 ? 8 : 0;
            int greatestA = "=sr<".indexOf(kind) >= 0 ? 31 : 7;
            int b = "TRC".indexOf(kind) >= 0 ? 1 : 0;
            accepted(0, kind, leastA, b, true);
            accepted(1, kind, greatestA, b, true);
            accepted(0, kind, leastA - 1, b, kind == 'J');
            accepted(0, kind, greatestA + 1, b, kind == 'J');
            accepted(0, kind, Integer.MIN_VALUE, b, kind == 'J');
            accepted(0, kind, Integer.MAX_VALUE, b, kind == 'J');
            accepted(-1, kind, leastA, b, false);
            accepted(2, kind, leastA, b, false);
        }
        ranges("TRC", 1, 999);
        ranges("k", -999, 999);
        ranges("+<", 0, 7);
        ranges("J", 0, 39);
        String without = "=srZA";
        for (int i = 0; i < without.length(); i++) {
            int a = i < 3 ? 8 : 0;
            accepted(0, without.charAt(i), a, Integer.MIN_VALUE, true);
            accepted(0, without.charAt(i), a, Integer.MAX_VALUE, true);
        }
        for (char kind = 0; kind < 300; kind++) {
            accepted(0, kind, 8, 5, "=sr<J".indexOf(kind) >= 0);
            accepted(0, kind, 7, 5, "TRCZk+JA".indexOf(kind) >= 0);
        }
        accepted(0, (char) 65535, 8, 5, false);
    }

    private static void ranges(String kinds, int least, int greatest) {
        for (int i = 0; i < kinds.length(); i++) {
            char kind = kinds.charAt(i);
            int a = kind == '<' ? 8 : 0;
            accepted(0, kind, a, least, true);
            accepted(0, kind, a, greatest, true);
            accepted(0, kind, a, least - 1, false);
            accepted(0, kind, a, greatest + 1, false);
        }
    }

    private static void accepted(int task, char kind, int a, int b, boolean isRight) {
        Rungmaster x = new Rungmaster();
        String call = "rung(" + task + ", " + (int) kind + ", " + a + ", " + b + ")";
        if (isRight) {
            Check.same(call, x.rung(task, kind, a, b), 0);
        } else {
            Check.raises(call, IllegalArgumentException.class, () -> x.rung(task, kind, a, b));
        }
        Check.same("takeOver behind " + call, x.takeOver(), isRight ? 1 : 0);
    }

    private static void rungLimit() {
        Rungmaster x = new Rungmaster();
        for (int i = 0; i < 40; i++) {
            Check.same("rung", x.rung(0, 'J', 0, 0), i);
        }
        Check.raises("the 41st", IllegalStateException.class, () -> x.rung(0, 'J', 0, 0));
        Check.raises("the 41st, wrong", IllegalArgumentException.class, () -> x.rung(0, 'J', 0, 40));
        Check.raises("the 41st, wrong task", IllegalArgumentException.class, () -> x.rung(2, 'J', 0, 0));
        Check.same("takeOver", x.takeOver(), 40);
        x.pass(10);
        Check.same("done", x.done(), 40);
    }

    private static void contactAnswers() {
        Rungmaster x = new Rungmaster();
        Check.raises("none", NoSuchElementException.class, () -> x.contact(0, '1', 0));
        x.rung(0, '=', 8, 0);
        Check.raises("-1", NoSuchElementException.class, () -> x.contact(-1, '1', 0));
        Check.raises("1", NoSuchElementException.class, () -> x.contact(1, '1', 0));
        Check.raises("1, all wrong", NoSuchElementException.class, () -> x.contact(1, 'x', 99));
        Check.raises("kind", IllegalArgumentException.class, () -> x.contact(0, 'U', 0));
        Check.raises("bit -1", IllegalArgumentException.class, () -> x.contact(0, '1', -1));
        Check.raises("bit 32", IllegalArgumentException.class, () -> x.contact(0, '1', 32));
        Check.same("first", x.contact(0, '1', 0), 1);
        Check.same("second", x.contact(0, '0', 31), 2);
        Check.same("third", x.contact(0, 'u', 8), 3);
        Check.same("fourth", x.contact(0, 'd', 16), 4);
        Check.raises("fifth", IllegalStateException.class, () -> x.contact(0, '1', 0));
        Check.raises("fifth, wrong kind", IllegalArgumentException.class, () -> x.contact(0, ' ', 0));
        Check.raises("fifth, wrong bit", IllegalArgumentException.class, () -> x.contact(0, '1', 32));
        x.rung(0, '=', 9, 0);
        Check.same("first of the second rung", x.contact(1, '1', 0), 1);
        x.takeOver();
        x.emptyDraft();
        Check.raises("of the code, not of the draft", NoSuchElementException.class, () -> x.contact(0, '1', 0));
        x.rung(0, '=', 8, 0);
        Check.same("a rung of a new draft has none", x.contact(0, '1', 0), 1);
    }

    private static void stepLimit() {
        Rungmaster x = new Rungmaster();
        for (int i = 0; i < 12; i++) {
            Check.same("step", x.step(), i);
        }
        Check.raises("the 13th", IllegalStateException.class, x::step);
        x.takeOver();
        Check.same("share", x.activeShare(), 1.0f / 12.0f);
    }

    private static void actionAnswers() {
        Rungmaster x = new Rungmaster();
        Check.raises("none", NoSuchElementException.class, () -> x.action(0, 'n', 8, 0));
        x.step();
        Check.raises("-1", NoSuchElementException.class, () -> x.action(-1, 'n', 8, 0));
        Check.raises("1, all wrong", NoSuchElementException.class, () -> x.action(1, 'x', 99, -5));
        Check.raises("kind", IllegalArgumentException.class, () -> x.action(0, '=', 8, 5));
        Check.raises("bit 7", IllegalArgumentException.class, () -> x.action(0, 'n', 7, 5));
        Check.raises("bit 32", IllegalArgumentException.class, () -> x.action(0, 'n', 32, 5));
        Check.raises("d 0", IllegalArgumentException.class, () -> x.action(0, 'd', 8, 0));
        Check.raises("d 1000", IllegalArgumentException.class, () -> x.action(0, 'd', 8, 1000));
        Check.raises("l 0", IllegalArgumentException.class, () -> x.action(0, 'l', 8, 0));
        Check.raises("l 1000", IllegalArgumentException.class, () -> x.action(0, 'l', 8, 1000));
        Check.same("first", x.action(0, 'd', 8, 1), 1);
        Check.same("second", x.action(0, 'l', 31, 999), 2);
        Check.same("third", x.action(0, 's', 9, -7), 3);
        Check.raises("fourth", IllegalStateException.class, () -> x.action(0, 'n', 8, 0));
        Check.raises("fourth, wrong", IllegalArgumentException.class, () -> x.action(0, 'l', 8, 0));
        x.step();
        Check.same("n", x.action(1, 'n', 8, Integer.MAX_VALUE), 1);
        Check.same("r", x.action(1, 'r', 8, Integer.MIN_VALUE), 2);
        Check.same("d 999", x.action(1, 'd', 8, 999), 3);
        x.emptyDraft();
        x.step();
        Check.same("a step of a new draft has none", x.action(0, 'n', 8, 0), 1);
    }

    private static void transitionAnswers() {
        Rungmaster x = new Rungmaster();
        Check.raises("none", NoSuchElementException.class, () -> x.transition(0, -1, 0, -1, 0, true));
        x.step();
        x.step();
        Check.raises("first -1", NoSuchElementException.class, () -> x.transition(-1, -1, 0, -1, 0, true));
        Check.raises("first 2", NoSuchElementException.class, () -> x.transition(2, -1, 0, -1, 0, true));
        Check.raises("second -2", NoSuchElementException.class, () -> x.transition(0, -2, 0, -1, 0, true));
        Check.raises("second 2", NoSuchElementException.class, () -> x.transition(0, 2, 0, -1, 0, true));
        Check.raises("third -1", NoSuchElementException.class, () -> x.transition(0, -1, -1, -1, 0, true));
        Check.raises("third 2", NoSuchElementException.class, () -> x.transition(0, -1, 2, -1, 0, true));
        Check.raises("fourth -2", NoSuchElementException.class, () -> x.transition(0, -1, 0, -2, 0, true));
        Check.raises("fourth 2", NoSuchElementException.class, () -> x.transition(0, -1, 0, 2, 0, true));
        Check.raises("fourth 2, all wrong", NoSuchElementException.class, () -> x.transition(0, 0, 0, 2, 99, true));
        Check.raises("bit -1", IllegalArgumentException.class, () -> x.transition(0, -1, 0, -1, -1, true));
        Check.raises("bit 32", IllegalArgumentException.class, () -> x.transition(0, -1, 0, -1, 32, true));
        Check.raises("same ahead", IllegalArgumentException.class, () -> x.transition(0, 0, 1, -1, 0, true));
        Check.raises("same behind", IllegalArgumentException.class, () -> x.transition(0, -1, 1, 1, 0, true));
        Check.same("ahead as behind", x.transition(0, -1, 0, -1, 0, true), 1);
        Check.same("two of each", x.transition(0, 1, 1, 0, 31, false), 2);
        for (int i = 3; i <= 16; i++) {
            Check.same("more", x.transition(0, -1, 1, -1, 0, true), i);
        }
        Check.raises("the 17th", IllegalStateException.class, () -> x.transition(0, -1, 1, -1, 0, true));
        Check.raises("the 17th, no step", NoSuchElementException.class, () -> x.transition(5, -1, 1, -1, 0, true));
        Check.raises("the 17th, wrong", IllegalArgumentException.class, () -> x.transition(0, 0, 1, -1, 0, true));
    }

    private static void emptying() {
        Rungmaster x = new Rungmaster();
        x.rung(0, 's', 8, 0);
        x.rung(0, 's', 9, 0);
        x.step();
        x.step();
        x.transition(0, -1, 1, -1, 0, false);
        Check.same("emptyDraft", x.emptyDraft(), 2);
        Check.same("emptyDraft again", x.emptyDraft(), 0);
        Check.same("rung", x.rung(0, 's', 10, 0), 0);
        Check.same("step", x.step(), 0);
        Check.same("transition", x.transition(0, -1, 0, -1, 0, true), 1);
        x.takeOver();
        x.pass(10);
        Check.same("bits", x.bit(8) + x.bit(9), 0);
        Check.same("bit", x.bit(10), 1);
        Check.same("step 1", x.isActive(1), false);
        x.emptyDraft();
        x.pass(10);
        Check.same("the code stays", x.done(), 2);
    }

    private static void draftStaysBehindTakeOver() {
        Rungmaster x = new Rungmaster();
        x.rung(0, 's', 8, 0);
        x.takeOver();
        x.contact(0, '1', 0);
        x.pass(10);
        Check.same("a contact of the draft is not the code's", x.bit(8), 1);
        Check.same("emptyDraft", x.emptyDraft(), 1);
        Check.same("rungs", x.rungs(), 1);
        Check.same("takeOver", x.takeOver(), 0);
        Check.same("rungs", x.rungs(), 0);
    }

    private static void takeOverLooksAtActiveSteps() {
        Rungmaster x = new Rungmaster();
        Check.same("no steps at all", x.takeOver(), 0);
        x.step();
        x.step();
        x.transition(0, -1, 1, -1, 0, true);
        x.takeOver();
        x.setInput(0, true);
        x.pass(10);
        x.emptyDraft();
        x.rung(0, '=', 8, 0);
        x.step();
        String before = Look.at(x);
        Check.raises("step 1 is active", UnsupportedOperationException.class, x::takeOver);
        Check.same("nothing is changed", Look.at(x), before);
        Check.same("draft stays", x.step(), 1);
        Check.same("takeOver", x.takeOver(), 1);
        Check.same("step 1 stays active", x.isActive(1), true);
        x.emptyDraft();
        Check.raises("no steps", UnsupportedOperationException.class, x::takeOver);
        Check.same("code stays", x.rungs(), 1);
        x.reset();
        Check.raises("step 0, and the code has it", UnsupportedOperationException.class, x::takeOver);
    }
}
