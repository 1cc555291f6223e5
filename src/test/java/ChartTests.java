import java.util.NoSuchElementException;

/** Promises 4 to 6, 26, 27 and 40: the chart of steps. */
public final class ChartTests {
    public static void main(String[] args) {
        stepZeroAtFirst();
        timeOfSteps();
        fork();
        join();
        oneStepFeedsTwo();
        foundAheadOfFiring();
        intoItself();
        intoAnActiveOne();
        madeActiveAndGoneAgain();
        madeActiveTwice();
        actionN();
        actionsSAndR();
        actionsDAndL();
        stepsThatAreNotActiveDoNothing();
        leavingGoesFirst();
        actionsInOrder();
        bitIsLookedAtBehindRungs();
        forcedBitsCount();
        taskOneHasNoChart();
        shareOfSteps();
        Check.end();
    }

    private static Rungmaster steps(int count) {
        Rungmaster x = new Rungmaster();
        for (int i = 0; i < count; i++) {
            x.step();
        }
        return x;
    }

    private static String active(Rungmaster x) {
        StringBuilder text = new StringBuilder();
        for (int i = 0; i < 12; i++) {
            if (x.isActive(i)) {
                text.append((char) ('a' + i)).append(x.stepTime(i));
            }
        }
        return text.toString();
    }

    private static void stepZeroAtFirst() {
        Rungmaster x = new Rungmaster();
        Check.same("active", x.isActive(0), true);
        Check.same("not active", x.isActive(11), false);
        Check.same("time", x.stepTime(0), 0);
        x.pass(20);
        Check.same("it is no step of the code, its time stays", x.stepTime(0), 0);
        x.step();
        x.takeOver();
        x.pass(5);
        Check.same("no scan yet", x.stepTime(0), 0);
        x.pass(5);
        Check.same("since the last scan", x.stepTime(0), 10);
        Check.raises("not active", NoSuchElementException.class, () -> x.stepTime(1));
        Check.raises("no step", IllegalArgumentException.class, () -> x.stepTime(12));
        Check.raises("no step", IllegalArgumentException.class, () -> x.stepTime(-1));
        Check.raises("no step", IllegalArgumentException.class, () -> x.isActive(12));
        Check.raises("no step", IllegalArgumentException.class, () -> x.isActive(-1));
    }

    private static void timeOfSteps() {
        Rungmaster x = steps(2);
        x.transition(0, -1, 1, -1, 0, true);
        x.takeOver();
        x.setPeriod(0, 7);
        x.pass(15);
        Check.same("scans at 7 and 14", active(x), "a14");
        x.setInput(0, true);
        x.pass(6);
        Check.same("entered", active(x), "b0");
        x.pass(14);
        Check.same("grows", active(x), "b14");
        x.setWatch(0, 1);
        x.rung(0, 's', 8, 0);
        x.rung(0, 's', 8, 0);
        x.takeOver();
        x.pass(7);
        Check.same("the scan was dropped", active(x), "b14");
        x.setWatch(0, 2);
        x.pass(7);
        Check.same("since that which was not dropped", active(x), "b28");
    }

    private static void fork() {
        Rungmaster x = steps(3);
        x.transition(0, -1, 1, 2, 0, false);
        x.takeOver();
        x.pass(10);
        Check.same("both", active(x), "b0c0");
        x.pass(10);
        Check.same("both grow", active(x), "b10c10");
    }

    private static void join() {
        Rungmaster x = steps(5);
        x.transition(0, -1, 1, 2, 0, true);
        x.transition(1, -1, 3, -1, 1, true);
        x.transition(3, 2, 4, -1, 2, true);
        x.takeOver();
        x.setInput(2, true);
        x.setInput(0, true);
        x.pass(20);
        Check.same("3 is missing", active(x), "b10c10");
        x.setInput(1, true);
        x.pass(10);
        Check.same("3 was not active ahead", active(x), "c20d0");
        x.pass(10);
        Check.same("joined", active(x), "e0");
    }

    private static void oneStepFeedsTwo() {
        Rungmaster x = steps(3);
        x.transition(0, -1, 2, -1, 0, true);
        x.transition(0, -1, 1, -1, 0, true);
        x.takeOver();
        x.setInput(0, true);
        x.pass(10);
        Check.same("the one told first", active(x), "c0");
    }

    private static void foundAheadOfFiring() {
        Rungmaster x = steps(3);
        x.transition(0, -1, 1, -1, 0, true);
        x.transition(1, -1, 2, -1, 0, true);
        x.takeOver();
        x.setInput(0, true);
        x.pass(10);
        Check.same("one at a time", active(x), "b0");
        x.pass(10);
        Check.same("the next one", active(x), "c0");
    }

    private static void intoItself() {
        Rungmaster x = steps(1);
        x.action(0, 's', 8, 0);
        x.action(0, 'd', 9, 10);
        x.transition(0, -1, 0, -1, 0, true);
        x.takeOver();
        x.pass(10);
        Check.same("not entered at first", Look.given(x), "01000000");
        Check.same("time", active(x), "a10");
        x.setInput(0, true);
        x.pass(10);
        Check.same("left and entered", Look.given(x), "10000000");
        Check.same("time", active(x), "a0");
    }

    private static void intoAnActiveOne() {
        Rungmaster x = steps(3);
        x.action(1, 's', 8, 0);
        x.action(1, 'n', 9, 0);
        x.transition(0, -1, 1, 2, 0, true);
        x.transition(2, -1, 1, -1, 1, true);
        x.rung(0, 'r', 8, 0);
        x.takeOver();
        x.setInput(0, true);
        x.pass(20);
        Check.same("a while ago", active(x), "b10c10");
        Check.same("s once", Look.given(x), "01000000");
        x.setInput(1, true);
        x.pass(10);
        Check.same("entered again", active(x), "b0");
        Check.same("s again", Look.given(x), "11000000");
    }

    private static void madeActiveAndGoneAgain() {
        Rungmaster x = steps(4);
        x.action(1, 'n', 8, 0);
        x.action(1, 's', 9, 0);
        x.transition(0, -1, 1, 2, 0, true);
        x.transition(2, -1, 1, -1, 1, true);
        x.transition(1, -1, 3, -1, 1, true);
        x.rung(0, 'r', 9, 0);
        x.takeOver();
        x.setInput(0, true);
        x.pass(10);
        x.setInput(1, true);
        x.pass(10);
        Check.same("made active by one, left by the next", active(x), "d0");
        Check.same("left, not entered", Look.given(x), "00000000");
    }

    private static void madeActiveTwice() {
        Rungmaster x = steps(4);
        x.transition(0, -1, 1, 2, 0, true);
        x.transition(1, -1, 3, -1, 1, true);
        x.transition(2, -1, 1, 3, 1, true);
        x.takeOver();
        x.setInput(0, true);
        x.pass(20);
        x.setInput(1, true);
        x.pass(10);
        Check.same("left by one, made active by the next", active(x), "b0d0");
        x.pass(10);
        Check.same("1 fires again into the active 3", active(x), "d0");
    }

    private static void actionN() {
        Rungmaster x = steps(2);
        x.action(0, 'n', 8, 500);
        x.action(1, 'n', 9, -500);
        x.transition(0, -1, 1, -1, 0, true);
        x.rung(0, 'r', 8, 0);
        x.takeOver();
        x.pass(10);
        Check.same("1 behind the rungs, in each scan", x.given(0), 1);
        x.pass(10);
        Check.same("1 again", x.given(0), 1);
        x.setInput(0, true);
        x.pass(10);
        Check.same("left and entered", Look.given(x), "01000000");
    }

    private static void actionsSAndR() {
        Rungmaster x = steps(3);
        x.action(0, 's', 10, 0);
        x.action(1, 's', 8, 0);
        x.action(1, 'r', 9, 0);
        x.transition(0, -1, 1, -1, 0, true);
        x.transition(1, -1, 2, -1, 1, true);
        int first = x.rung(0, 's', 9, 0);
        x.contact(first, 'd', 0);
        int second = x.rung(0, 'r', 8, 0);
        x.contact(second, 'd', 0);
        int third = x.rung(0, 's', 9, 0);
        x.contact(third, 'u', 0);
        x.takeOver();
        x.setInput(0, true);
        x.pass(10);
        Check.same("entered", Look.given(x), "10000000");
        x.setInput(0, false);
        x.pass(10);
        Check.same("only when entered", Look.given(x), "01000000");
        x.setInput(0, true);
        x.pass(10);
        x.setInput(1, true);
        x.pass(10);
        Check.same("left: s and r stay", Look.given(x), "01000000");
    }

    private static void actionsDAndL() {
        Rungmaster x = steps(2);
        x.action(0, 'd', 8, 20);
        x.action(0, 'l', 9, 20);
        x.transition(0, -1, 1, -1, 0, true);
        x.takeOver();
        x.pass(10);
        Check.same("10 of 20", Look.given(x), "01000000");
        x.pass(10);
        Check.same("20 of 20", Look.given(x), "10000000");
        x.setInput(0, true);
        x.pass(10);
        Check.same("left", Look.given(x), "00000000");
        Rungmaster y = steps(2);
        y.action(0, 'l', 9, 20);
        y.transition(0, -1, 1, -1, 0, true);
        y.takeOver();
        y.pass(10);
        y.setInput(0, true);
        y.pass(10);
        Check.same("left while l was 1", y.bit(9), 0);
    }

    private static void stepsThatAreNotActiveDoNothing() {
        Rungmaster x = steps(2);
        x.action(1, 'n', 8, 0);
        x.action(1, 'd', 9, 5);
        x.action(1, 'l', 10, 5);
        x.transition(0, -1, 0, -1, 0, true);
        x.rung(0, 's', 8, 0);
        x.rung(0, 's', 9, 0);
        x.takeOver();
        x.pass(10);
        Check.same("as the rungs wrote", Look.given(x), "11000000");
        x.setInput(0, true);
        x.pass(10);
        Check.same("also when another one is left", Look.given(x), "11000000");
    }

    private static void leavingGoesFirst() {
        Rungmaster x = steps(3);
        x.action(0, 's', 8, 0);
        x.action(1, 'n', 8, 0);
        x.action(2, 'n', 9, 0);
        x.transition(1, -1, 0, -1, 1, true);
        x.transition(0, -1, 1, -1, 0, true);
        x.takeOver();
        x.setInput(0, true);
        x.pass(10);
        Check.same("n", x.given(0), 1);
        x.setInput(1, true);
        x.pass(10);
        Check.same("n of 1 is 0 first, then s of 0", x.given(0), 1);
    }

    private static void actionsInOrder() {
        Rungmaster x = steps(3);
        x.action(1, 'n', 8, 0);
        x.action(1, 'd', 8, 20);
        x.action(2, 'd', 9, 20);
        x.action(1, 'n', 9, 0);
        x.transition(0, -1, 1, 2, 0, true);
        x.takeOver();
        x.setInput(0, true);
        x.pass(20);
        Check.same("the action told last, the step of the greatest number", Look.given(x), "00000000");
        x.pass(10);
        Check.same("20", Look.given(x), "11000000");
    }

    private static void bitIsLookedAtBehindRungs() {
        Rungmaster x = steps(3);
        x.transition(0, -1, 1, -1, 16, true);
        x.transition(1, -1, 2, -1, 16, false);
        int number = x.rung(0, '=', 16, 0);
        x.contact(number, '1', 0);
        x.takeOver();
        x.setInput(0, true);
        x.pass(10);
        Check.same("at once", active(x), "b0");
        x.pass(10);
        Check.same("not 0", active(x), "b10");
        x.setInput(0, false);
        x.pass(10);
        Check.same("0", active(x), "c0");
    }

    private static void forcedBitsCount() {
        Rungmaster x = steps(2);
        x.action(1, 'n', 8, 0);
        x.transition(0, -1, 1, -1, 16, true);
        x.takeOver();
        x.force(16, 1);
        x.force(8, 0);
        x.pass(10);
        Check.same("fired", active(x), "b0");
        Check.same("given as forced", x.given(0), 0);
        x.force(8, -1);
        Check.same("written", x.bit(8), 1);
    }

    private static void taskOneHasNoChart() {
        Rungmaster x = steps(2);
        x.transition(0, -1, 1, -1, 0, false);
        x.takeOver();
        x.setPeriod(1, 3);
        x.pass(9);
        Check.same("scans of task 1", x.scans(1), 3);
        Check.same("nothing fired", active(x), "a0");
        x.pass(1);
        Check.same("fired", active(x), "b0");
    }

    private static void shareOfSteps() {
        Rungmaster x = steps(3);
        Check.raises("no steps in the code", ArithmeticException.class, x::activeShare);
        x.transition(0, -1, 1, 2, 0, true);
        x.takeOver();
        Check.same("one of three", x.activeShare(), 1.0f / 3.0f);
        x.setInput(0, true);
        x.pass(10);
        Check.same("two of three", x.activeShare(), 2.0f / 3.0f);
        Check.same("sound", x.isSound(), true);
    }
}
