/** Promises 7, 8 and 36: what stays and what does not when a draft is taken over while the code runs. */
public final class ChangeTests {
    public static void main(String[] args) {
        sameContactKeepsWhatItSaw();
        otherContactIsAsAtFirst();
        contactOfAnotherKindOfRung();
        contactOnlyInTheDraft();
        contactThatWasAway();
        counterKeepsThatItHeld();
        otherCounterIsAsAtFirst();
        allElseStays();
        sameDraftAgain();
        refusedDraftChangesNothing();
        Check.end();
    }

    private static void tellRung(Rungmaster x, int task, char kind, int a, int b, char contact, int bit) {
        int number = x.rung(task, kind, a, b);
        x.contact(number, contact, bit);
    }

    /** A rung whose contact has seen input 0 as 1; its own rung counts edges in number 1. */
    private static Rungmaster hasSeenOne() {
        Rungmaster x = new Rungmaster();
        tellRung(x, 0, '+', 1, 2, 'u', 0);
        x.rung(0, 'k', 2, 1);
        x.takeOver();
        x.pass(10);
        x.setInput(0, true);
        x.pass(10);
        Check.same("the edge", x.number(1), 1);
        x.emptyDraft();
        return x;
    }

    private static int edgesBehindTakeOver(Rungmaster x) {
        x.takeOver();
        x.pass(10);
        return x.number(1) - 1;
    }

    private static void sameContactKeepsWhatItSaw() {
        Rungmaster x = hasSeenOne();
        tellRung(x, 0, '+', 1, 2, 'u', 0);
        Check.same("the same", edgesBehindTakeOver(x), 0);
        Rungmaster y = hasSeenOne();
        tellRung(y, 0, '+', 1, 2, 'u', 0);
        y.contact(0, '0', 5);
        Check.same("with one more", edgesBehindTakeOver(y), 0);
    }

    private static void otherContactIsAsAtFirst() {
        Rungmaster x = hasSeenOne();
        x.setInput(1, true);
        x.pass(10);
        tellRung(x, 0, '+', 1, 2, 'u', 1);
        Check.same("another bit", edgesBehindTakeOver(x), 1);
        Rungmaster y = hasSeenOne();
        tellRung(y, 0, 'k', 2, 1, '1', 0);
        tellRung(y, 0, '+', 1, 2, 'u', 0);
        Check.same("another rung", edgesBehindTakeOver(y), 1);
        Rungmaster z = hasSeenOne();
        tellRung(z, 0, '+', 1, 2, '1', 0);
        z.contact(0, 'u', 0);
        Check.same("another index", edgesBehindTakeOver(z), 1);
        Rungmaster w = hasSeenOne();
        tellRung(w, 0, '+', 1, 2, 'd', 0);
        w.takeOver();
        w.setInput(0, false);
        w.pass(10);
        Check.same("another kind saw 0", w.number(1), 1);
    }

    private static void contactOfAnotherKindOfRung() {
        Rungmaster x = hasSeenOne();
        tellRung(x, 0, 's', 8, 0, 'u', 0);
        x.takeOver();
        x.pass(10);
        Check.same("the kind of the rung does not matter", x.bit(8), 0);
        Rungmaster y = hasSeenOne();
        y.setPeriod(1, 1);
        tellRung(y, 1, 's', 8, 0, 'u', 0);
        y.takeOver();
        y.pass(1);
        Check.same("nor does the task", y.bit(8), 0);
    }

    private static void contactOnlyInTheDraft() {
        Rungmaster x = hasSeenOne();
        tellRung(x, 0, '+', 1, 2, 'u', 0);
        x.contact(0, 'u', 0);
        Check.same("the second one is new, the first one not", edgesBehindTakeOver(x), 0);
        x.setInput(0, false);
        x.pass(10);
        x.setInput(0, true);
        x.pass(10);
        Check.same("both", x.number(1), 2);
    }

    private static void contactThatWasAway() {
        Rungmaster x = hasSeenOne();
        x.takeOver();
        tellRung(x, 0, '+', 1, 2, 'u', 0);
        Check.same("it was not in the code", edgesBehindTakeOver(x), 1);
        Rungmaster y = hasSeenOne();
        y.rung(0, '+', 1, 3);
        y.takeOver();
        y.contact(0, 'u', 0);
        y.emptyDraft();
        tellRung(y, 0, '+', 1, 2, 'u', 0);
        Check.same("its rung had no contact", edgesBehindTakeOver(y), 1);
    }

    private static Rungmaster hasHeld() {
        Rungmaster x = new Rungmaster();
        x.rung(0, 'C', 1, 9);
        x.takeOver();
        x.pass(20);
        Check.same("held", x.timer(1), 1);
        x.emptyDraft();
        return x;
    }

    private static void counterKeepsThatItHeld() {
        Rungmaster x = hasHeld();
        x.rung(0, 'C', 1, 5);
        x.takeOver();
        x.pass(10);
        Check.same("another b", x.timer(1), 1);
        Rungmaster y = hasHeld();
        tellRung(y, 0, 'C', 1, 9, '0', 7);
        y.takeOver();
        y.pass(10);
        Check.same("another contact", y.timer(1), 1);
        Rungmaster z = hasHeld();
        z.rung(1, 'C', 1, 9);
        z.takeOver();
        z.setPeriod(1, 5);
        z.pass(10);
        Check.same("another task", z.timer(1), 1);
    }

    private static void otherCounterIsAsAtFirst() {
        Rungmaster x = hasHeld();
        x.rung(0, 'C', 2, 9);
        x.takeOver();
        x.pass(10);
        Check.same("another timer", x.timer(2), 1);
        Rungmaster y = hasHeld();
        y.rung(0, 'k', 1, 1);
        y.rung(0, 'C', 1, 9);
        y.takeOver();
        y.pass(10);
        Check.same("another rung", y.timer(1), 2);
        Rungmaster z = hasHeld();
        z.rung(0, 'Z', 2, 9);
        z.takeOver();
        z.emptyDraft();
        z.rung(0, 'C', 1, 9);
        z.takeOver();
        z.pass(10);
        Check.same("it was another kind between", z.timer(1), 2);
        Rungmaster w = hasHeld();
        w.takeOver();
        w.rung(0, 'C', 1, 9);
        w.takeOver();
        w.pass(10);
        Check.same("there was none between", w.timer(1), 2);
    }

    private static void allElseStays() {
        Rungmaster x = new Rungmaster();
        x.step();
        x.step();
        x.action(1, 'n', 15, 0);
        x.transition(0, -1, 1, -1, 0, true);
        x.rung(0, 'k', 1, 7);
        x.rung(0, 'R', 2, 50);
        x.rung(0, 's', 8, 0);
        tellRung(x, 0, 'A', 4, 0, '1', 0);
        x.takeOver();
        x.setInput(0, true);
        x.force(20, 1);
        x.pass(25);
        String before = Look.at(x);
        x.emptyDraft();
        x.step();
        x.step();
        x.step();
        Check.same("takeOver", x.takeOver(), 0);
        String due = before.replace("rungs 4", "rungs 0").replace("share 0.5", "share " + 1.0f / 3.0f);
        Check.same("all else", Look.at(x), due);
        x.pass(5);
        Check.same("step 1 has no action now, its bit stays", x.bit(15), 1);
        Check.same("time of step 1", x.stepTime(1), 20);
        Check.same("timer", x.timer(2), 20);
        Check.same("alarm", x.alarm(4), 't');
    }

    private static void sameDraftAgain() {
        Rungmaster x = new Rungmaster();
        tellRung(x, 0, '+', 1, 2, 'u', 0);
        x.rung(0, 'k', 2, 1);
        x.rung(0, 'C', 3, 9);
        x.takeOver();
        x.pass(10);
        x.setInput(0, true);
        for (int i = 0; i < 3; i++) {
            Check.same("takeOver", x.takeOver(), 3);
            x.pass(10);
            Check.same("edges", x.number(1), 1);
            Check.same("counted", x.timer(3), 1);
        }
    }

    private static void refusedDraftChangesNothing() {
        Rungmaster x = new Rungmaster();
        x.step();
        tellRung(x, 0, '+', 1, 2, 'u', 0);
        x.rung(0, 'k', 2, 1);
        x.rung(0, 'C', 3, 9);
        x.takeOver();
        x.pass(10);
        x.setInput(0, true);
        x.pass(10);
        x.emptyDraft();
        Check.raises("no step 0", UnsupportedOperationException.class, x::takeOver);
        x.pass(10);
        Check.same("seen", x.number(1), 1);
        Check.same("held", x.timer(3), 1);
        Check.same("rungs", x.rungs(), 3);
    }
}
