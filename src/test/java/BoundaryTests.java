import java.util.NoSuchElementException;

/**
 * The boundary cases that the document's Terms name, sentence by sentence: what is first and last, empty and
 * full, just reached and just not, and ints that go round. No object is called more than 512 times.
 */
public final class BoundaryTests {
    public static void main(String[] args) {
        bits();
        rungs();
        chart();
        scans();
        alarms();
        changes();
        standby();
        Check.end();
    }

    private static void bits() {
        allIsZeroAtFirst();
        forcedAgainAsTheSame();
        forcedNoneAndAll();
        whatIsWrittenToAForcedBitIsKept();
    }

    private static void rungs() {
        fortyRungsAreDone();
        rungWithoutContacts();
        fourContactsMustHold();
        eachContactSeesForItself();
        contactsAtFirst();
        timeUpToB();
        timeUpToTheGreatestB();
        countUpToTheGreatestB();
        timeIsCutToB();
        counterAtFirst();
        sumsGoRound();
        lessAtTheEndsOfTheInts();
        jumpsAtTheEnds();
    }

    private static void chart() {
        stepZeroIsActiveAtFirst();
        twelveSteps();
        sixteenTransitions();
        twoTransitionsFireAtOnce();
        threeActions();
        timesOfActions();
        greatestTimeOfActions();
    }

    private static void scans() {
        leastAndGreatestPeriod();
        noPeriod();
        startAtTheFirstUnit();
        asManyLostAsTold();
        asManyHeldAsTold();
        watchIsJustKept();
        nothingToDo();
        thirdMissInARow();
    }

    private static void alarms() {
        emptyRow();
        fullRow();
        acknowledgedOnesStayApart();
        acknowledgedOneLeavesTheRow();
        shelvedForOneUnit();
        shelvedForTheMostUnits();
        resetOfTheFirstAlarm();
    }

    private static void changes() {
        emptyDraftAtFirst();
        stepsThatTheDraftMustHave();
        stepZeroOfCodeWithoutSteps();
        lastContactKeepsWhatItSaw();
        lastCounterKeepsThatItHeld();
    }

    private static void standby() {
        nothingGotSinceTheBeginning();
        emptyDraftIsSomethingGot();
        resetAtTheBeginning();
        timeOfTheLastUnits();
        sharesAndMeans();
    }

    private static void tell(Rungmaster x, int task, char kind, int a, int b, char contact, int bit) {
        int number = x.rung(task, kind, a, b);
        x.contact(number, contact, bit);
    }

    /** "all is 0 at first" */
    private static void allIsZeroAtFirst() {
        Rungmaster x = new Rungmaster();
        for (int i = 0; i < 32; i++) {
            Check.same("bit", x.bit(i), 0);
        }
        for (int i = 0; i < 8; i++) {
            Check.same("number", x.number(i), 0);
            Check.same("timer", x.timer(i), 0);
            Check.same("given", x.given(i), 0);
            Check.same("input", x.setInput(i, false), false);
        }
    }

    /** "A bit can be forced to 0 or 1: then it is read as this" */
    private static void forcedAgainAsTheSame() {
        Rungmaster x = new Rungmaster();
        for (int bit = 0; bit < 32; bit += 31) {
            Check.same("not forced", x.force(bit, -1), -1);
            Check.same("to 1", x.force(bit, 1), -1);
            Check.same("to 1 again", x.force(bit, 1), 1);
            Check.same("read", x.bit(bit), 1);
            Check.same("to 0", x.force(bit, 0), 1);
            Check.same("to 0 again", x.force(bit, 0), 0);
            Check.same("read", x.bit(bit), 0);
            Check.same("not any more", x.force(bit, -1), 0);
            Check.same("not any more, again", x.force(bit, -1), -1);
        }
    }

    /** Promise 37: "Returns how many bits are forced." */
    private static void forcedNoneAndAll() {
        Rungmaster x = new Rungmaster();
        Check.same("none", x.forced(), 0);
        for (int i = 0; i < 32; i++) {
            x.force(i, i % 2);
            x.force(i, 1 - i % 2);
        }
        Check.same("all", x.forced(), 32);
        x.reset();
        Check.same("all, behind a reset", x.forced(), 32);
        for (int i = 0; i < 32; i++) {
            Check.same("read", x.bit(i), 1 - i % 2);
            x.force(i, -1);
        }
        Check.same("none", x.forced(), 0);
    }

    /** "what is written to it is kept, and counts when it is not forced any more" */
    private static void whatIsWrittenToAForcedBitIsKept() {
        Rungmaster x = new Rungmaster();
        x.rung(0, 's', 31, 0);
        x.rung(0, 'C', 0, 1);
        x.rung(0, '=', 8, 0);
        x.takeOver();
        x.force(31, 0);
        x.force(24, 0);
        x.force(8, 0);
        x.force(9, 1);
        x.pass(10);
        Check.same("read as forced", x.bit(31) + x.bit(24) + x.bit(8), 0);
        Check.same("given as forced", Look.given(x), "01000000");
        for (int bit = 0; bit < 32; bit++) {
            x.force(bit, -1);
        }
        Check.same("what was written", x.bit(31) + x.bit(24) + x.bit(8), 3);
        Check.same("nothing was written", x.bit(9), 0);
        Check.same("as it was given", Look.given(x), "01000000");
    }

    /** "At most 40 rungs stand in a row." */
    private static void fortyRungsAreDone() {
        Rungmaster x = new Rungmaster();
        Check.same("the first one", x.rung(0, 's', 8, 0), 0);
        for (int i = 1; i < 39; i++) {
            x.rung(1, 'k', 0, 0);
        }
        Check.same("the last one", x.rung(0, 's', 9, 0), 39);
        Check.raises("one more", IllegalStateException.class, () -> x.rung(0, 's', 10, 0));
        Check.same("taken over", x.takeOver(), 40);
        Check.same("rungs", x.rungs(), 40);
        x.pass(10);
        Check.same("first and last", Look.given(x), "11000000");
        Check.same("done", x.done(), 2);
    }

    /** "A rung holds if all of its contacts hold." */
    private static void rungWithoutContacts() {
        Rungmaster x = new Rungmaster();
        x.rung(0, '=', 8, 0);
        x.rung(0, 's', 9, 0);
        x.rung(0, 'T', 0, 99);
        x.rung(0, 'R', 1, 99);
        x.rung(0, 'C', 2, 99);
        x.rung(0, 'k', 0, 5);
        x.rung(0, '+', 1, 0);
        x.rung(0, '<', 10, 2);
        x.rung(0, 'A', 7, 0);
        x.rung(0, 's', 11, 0);
        x.rung(0, 'r', 11, 0);
        x.rung(0, 'J', 0, 39);
        x.rung(0, 's', 12, 0);
        x.takeOver();
        x.pass(10);
        Check.same("given", Look.given(x), "11100000");
        Check.same("timers", x.timer(0) * 10000 + x.timer(1) * 100 + x.timer(2), 101001);
        Check.same("numbers", x.number(0) * 10 + x.number(1), 55);
        Check.same("alarm", x.alarm(7), 't');
    }

    /** "up to 4 contacts", "A rung holds if all of its contacts hold." */
    private static void fourContactsMustHold() {
        Rungmaster x = new Rungmaster();
        x.rung(0, '=', 8, 0);
        for (int i = 0; i < 4; i++) {
            Check.same("contact", x.contact(0, '1', i), i + 1);
        }
        x.takeOver();
        x.setPeriod(0, 1);
        for (int inputs = 0; inputs < 16; inputs++) {
            for (int i = 0; i < 4; i++) {
                x.setInput(i, (inputs >> i & 1) == 1);
            }
            x.pass(1);
            Check.same("inputs " + inputs, x.given(0), inputs == 15 ? 1 : 0);
        }
    }

    /** "'u' if it is 1 and was 0 when this contact was looked at last" */
    private static void eachContactSeesForItself() {
        for (int place = 0; place < 4; place++) {
            Rungmaster x = new Rungmaster();
            x.rung(0, '=', 8, 0);
            for (int i = 0; i < 4; i++) {
                x.contact(0, i == place ? 'u' : '1', i);
            }
            x.takeOver();
            x.setPeriod(0, 1);
            for (int i = 0; i < 4; i++) {
                x.setInput(i, true);
            }
            x.pass(1);
            Check.same("rises", x.bit(8), 1);
            x.pass(1);
            Check.same("it was 1", x.bit(8), 0);
            x.setInput(place, false);
            x.pass(1);
            x.setInput(place, true);
            x.pass(1);
            Check.same("rises again", x.bit(8), 1);
        }
    }

    /** "at first it was 0" */
    private static void contactsAtFirst() {
        Rungmaster x = new Rungmaster();
        tell(x, 0, '=', 8, 0, 'u', 0);
        tell(x, 0, '=', 9, 0, 'u', 1);
        tell(x, 0, '=', 10, 0, 'd', 0);
        tell(x, 0, '=', 11, 0, 'd', 1);
        x.takeOver();
        x.setInput(0, true);
        x.pass(10);
        Check.same("given", Look.given(x), "10000000");
    }

    /** "grows by the time since the last scan of the rung's task, up to b"; "1 if the time is b or more" */
    private static void timeUpToB() {
        int[] most = {1, 9, 10, 11, 19, 20, 21};
        for (char kind : new char[] {'T', 'R'}) {
            for (int b : most) {
                Rungmaster x = new Rungmaster();
                x.rung(0, kind, 7, b);
                x.takeOver();
                x.pass(10);
                Check.same(kind + " " + b + " behind 10", x.timer(7), Math.min(10, b));
                Check.same(kind + " " + b + " behind 10, bit", x.bit(31), b <= 10 ? 1 : 0);
                x.pass(10);
                Check.same(kind + " " + b + " behind 20", x.timer(7), Math.min(20, b));
                Check.same(kind + " " + b + " behind 20, bit", x.bit(31), b <= 20 ? 1 : 0);
            }
        }
    }

    /** Promise 2: "1 to 999 for T, R and C" */
    private static void timeUpToTheGreatestB() {
        Rungmaster x = new Rungmaster();
        x.rung(0, 'T', 0, 999);
        x.rung(0, 'R', 1, 999);
        x.takeOver();
        x.setPeriod(0, 1);
        for (int i = 0; i < 4; i++) {
            x.pass(200);
        }
        x.pass(198);
        Check.same("T", x.timer(0), 998);
        Check.same("R", x.timer(1), 998);
        Check.same("bits", x.bit(24) + x.bit(25), 0);
        x.pass(1);
        Check.same("T", x.timer(0), 999);
        Check.same("R", x.timer(1), 999);
        Check.same("bits", x.bit(24) + x.bit(25), 2);
        x.pass(1);
        Check.same("T", x.timer(0), 999);
        Check.same("R", x.timer(1), 999);
    }

    /** "the time of the timer a grows by 1, up to b" */
    private static void countUpToTheGreatestB() {
        Rungmaster x = new Rungmaster();
        for (int i = 0; i < 37; i++) {
            tell(x, 0, 'C', 0, 999, '1', 0);
        }
        tell(x, 0, 'C', 1, 1, '1', 0);
        tell(x, 0, 'C', 2, 2, '1', 0);
        x.takeOver();
        x.setPeriod(0, 1);
        for (int i = 1; i <= 28; i++) {
            x.setInput(0, true);
            x.pass(1);
            Check.same("each of 37 rungs counts", x.timer(0), Math.min(i * 37, 999));
            Check.same("b is reached", x.bit(24), i < 27 ? 0 : 1);
            Check.same("b 1", x.timer(1) * 10 + x.bit(25), 11);
            Check.same("b 2", x.timer(2) * 10 + x.bit(26), i == 1 ? 10 : 21);
            x.setInput(0, false);
            x.pass(1);
        }
    }

    /** "Behind 'T', 'R' and 'C', also if the rung does not hold, the time is b at most" */
    private static void timeIsCutToB() {
        for (char kind : new char[] {'R', 'C'}) {
            for (int b = 9; b <= 11; b++) {
                Rungmaster x = new Rungmaster();
                x.rung(0, 'R', 0, 100);
                tell(x, 0, kind, 0, b, '1', 0);
                x.takeOver();
                x.pass(10);
                Check.same(kind + " cuts to " + b, x.timer(0), Math.min(10, b));
                Check.same(kind + " bit with " + b, x.bit(24), b <= 10 ? 1 : 0);
            }
        }
        Rungmaster y = new Rungmaster();
        y.rung(0, 'R', 0, 100);
        y.rung(0, 'T', 0, 5);
        y.takeOver();
        y.pass(10);
        Check.same("T that holds cuts, too", y.timer(0), 5);
    }

    /** "'C': if it holds and did not when this rung was done last, as at first" */
    private static void counterAtFirst() {
        Rungmaster x = new Rungmaster();
        tell(x, 0, 'J', 0, 2, '1', 0);
        tell(x, 0, 'C', 0, 9, '0', 1);
        x.takeOver();
        x.setPeriod(0, 1);
        x.setInput(0, true);
        x.pass(5);
        Check.same("it was not done yet", x.timer(0), 0);
        x.setInput(0, false);
        x.pass(5);
        Check.same("it counts at first, once", x.timer(0), 1);
        x.setInput(0, true);
        x.setInput(1, true);
        x.pass(5);
        x.setInput(1, false);
        x.setInput(0, false);
        x.pass(1);
        Check.same("it was not done while it would not have held", x.timer(0), 1);
    }

    /** Number 1 becomes the least int, number 2 the greatest, number 3 is 1 and number 4 is -1. */
    private static Rungmaster withGreatInts() {
        Rungmaster x = new Rungmaster();
        x.rung(0, 'k', 3, 1);
        x.rung(0, 'k', 4, -1);
        x.rung(0, '+', 1, 3);
        for (int i = 0; i < 31; i++) {
            x.rung(0, '+', 1, 1);
        }
        x.rung(0, '+', 2, 1);
        x.rung(0, '+', 2, 4);
        x.takeOver();
        x.pass(10);
        x.setPeriod(0, 1);
        x.emptyDraft();
        return x;
    }

    /** "ints go round" */
    private static void sumsGoRound() {
        Rungmaster x = withGreatInts();
        Check.same("doubled into the least int", x.number(1), Integer.MIN_VALUE);
        Check.same("-1 more: the greatest int", x.number(2), Integer.MAX_VALUE);
        x.rung(0, '+', 1, 4);
        x.rung(0, '+', 2, 3);
        x.takeOver();
        x.pass(1);
        Check.same("below the least", x.number(1), Integer.MAX_VALUE);
        Check.same("above the greatest", x.number(2), Integer.MIN_VALUE);
        x.emptyDraft();
        x.rung(0, '+', 1, 1);
        x.rung(0, '+', 2, 2);
        x.takeOver();
        x.pass(1);
        Check.same("the greatest twice", x.number(1), -2);
        Check.same("the least twice", x.number(2), 0);
    }

    /** "the number with the index b is less than the one with the index 0" */
    private static void lessAtTheEndsOfTheInts() {
        int[][] pairs = {{1, 2, 1}, {2, 1, 0}, {1, 3, 1}, {3, 1, 0}, {2, 4, 0}, {4, 2, 1}, {1, 1, 0}, {2, 2, 0}};
        for (int[] pair : pairs) {
            Rungmaster x = withGreatInts();
            x.rung(0, '+', 0, pair[1]);
            x.rung(0, '<', 31, pair[0]);
            x.rung(0, '<', 8, 0);
            x.takeOver();
            x.pass(1);
            Check.same("number " + pair[0] + " less than number " + pair[1], x.bit(31), pair[2]);
            Check.same("not less than itself", x.bit(8), 0);
        }
    }

    /** "behind it and ahead of the rung with the number b", "all up to the end if there is no such rung" */
    private static void jumpsAtTheEnds() {
        int[] sizes = {39, 40};
        for (int size : sizes) {
            Rungmaster x = new Rungmaster();
            x.rung(0, 'J', 0, 39);
            for (int i = 1; i < size; i++) {
                x.rung(0, 's', 16, 0);
            }
            x.takeOver();
            x.pass(10);
            Check.same("to the rung 39 of " + size, x.done(), size == 40 ? 2 : 1);
        }
        for (int aim = 0; aim < 40; aim += 39) {
            Rungmaster x = new Rungmaster();
            for (int i = 0; i < 39; i++) {
                x.rung(0, 'k', 1, i);
            }
            x.rung(0, 'J', 0, aim);
            x.takeOver();
            x.pass(10);
            Check.same("the last rung jumps to " + aim, x.done(), 40);
        }
        Rungmaster alone = new Rungmaster();
        alone.rung(0, 'J', Integer.MIN_VALUE, 0);
        alone.takeOver();
        alone.pass(10);
        Check.same("to itself", alone.done(), 1);
    }

    /** "the step 0 active at first" */
    private static void stepZeroIsActiveAtFirst() {
        Rungmaster x = new Rungmaster();
        for (int i = 0; i < 12; i++) {
            Check.same("active", x.isActive(i), i == 0);
        }
        Check.same("time", x.stepTime(0), 0);
        for (int i = 1; i < 12; i++) {
            int step = i;
            Check.raises("not active", NoSuchElementException.class, () -> x.stepTime(step));
        }
        Check.same("sound", x.isSound(), true);
    }

    /** "A chart has at most 12 steps" */
    private static void twelveSteps() {
        Rungmaster x = new Rungmaster();
        for (int i = 0; i < 12; i++) {
            Check.same("step", x.step(), i);
        }
        for (int i = 0; i < 12; i++) {
            x.action(i, 's', 8 + i % 8, 0);
            Check.same("transition", x.transition(i, -1, (i + 1) % 12, -1, 0, false), i + 1);
        }
        Check.raises("one more", IllegalStateException.class, x::step);
        x.takeOver();
        x.setPeriod(0, 1);
        for (int i = 1; i <= 12; i++) {
            x.pass(1);
            Check.same("active", x.isActive(i % 12), true);
            Check.same("time", x.stepTime(i % 12), 0);
            Check.same("one of twelve", x.activeShare(), 1.0f / 12.0f);
            Check.same("s of this step", x.bit(8 + i % 12 % 8), 1);
        }
    }

    /** "at most 16 transitions, each with one or two steps ahead, one or two behind" */
    private static void sixteenTransitions() {
        Rungmaster x = new Rungmaster();
        for (int i = 0; i < 12; i++) {
            x.step();
        }
        x.transition(0, -1, 10, 11, 0, false);
        for (int i = 2; i < 16; i++) {
            x.transition(10, 11, 0, -1, 31, true);
        }
        Check.same("the last one", x.transition(11, 10, 5, 4, 31, false), 16);
        Check.raises("one more", IllegalStateException.class, () -> x.transition(0, -1, 1, -1, 0, true));
        x.takeOver();
        x.setPeriod(0, 1);
        x.pass(1);
        Check.same("two behind", x.isActive(10) && x.isActive(11), true);
        Check.same("two of twelve", x.activeShare(), 2.0f / 12.0f);
        x.pass(1);
        Check.same("two ahead, two behind", x.isActive(4) && x.isActive(5), true);
        Check.same("none but these", x.activeShare(), 2.0f / 12.0f);
    }

    /** "each one that is active now and was made active by one of these is entered: its time is 0" */
    private static void twoTransitionsFireAtOnce() {
        Rungmaster x = new Rungmaster();
        for (int i = 0; i < 6; i++) {
            x.step();
        }
        x.action(3, 's', 8, 0);
        x.action(4, 's', 9, 0);
        x.action(5, 's', 10, 0);
        x.transition(0, -1, 1, 2, 0, false);
        x.transition(1, -1, 3, 5, 0, true);
        x.transition(2, -1, 4, -1, 0, true);
        x.takeOver();
        x.pass(20);
        x.setInput(0, true);
        x.pass(10);
        Check.same("all three are entered", Look.given(x), "11100000");
        Check.same("times", x.stepTime(3) + x.stepTime(4) + x.stepTime(5), 0);
    }

    /** "A step has at most 3 actions" */
    private static void threeActions() {
        Rungmaster x = new Rungmaster();
        x.step();
        Check.same("first", x.action(0, 'n', 8, 0), 1);
        Check.same("second", x.action(0, 'd', 9, 1), 2);
        Check.same("third", x.action(0, 'n', 31, 0), 3);
        Check.raises("one more", IllegalStateException.class, () -> x.action(0, 'n', 10, 0));
        x.step();
        x.transition(0, -1, 1, -1, 0, true);
        x.takeOver();
        x.pass(10);
        Check.same("all three", x.bit(8) + x.bit(9) + x.bit(31), 3);
        Check.same("no more", x.bit(10), 0);
        x.setInput(0, true);
        x.pass(10);
        Check.same("all three of the step that is left", x.bit(8) + x.bit(9) + x.bit(31), 0);
    }

    /** "'d' it becomes 1 if the step's time is not less than the told one"; "'l' 1 if it is less" */
    private static void timesOfActions() {
        int[] told = {1, 9, 10, 11, 20, 21};
        for (int time : told) {
            Rungmaster x = new Rungmaster();
            x.step();
            x.step();
            x.action(1, 'd', 8, time);
            x.action(1, 'l', 9, time);
            x.transition(0, -1, 1, -1, 0, false);
            x.takeOver();
            x.pass(10);
            Check.same("entered, told " + time, Look.given(x), "01000000");
            x.pass(10);
            Check.same("at 10, told " + time, Look.given(x), time <= 10 ? "10000000" : "01000000");
            x.pass(10);
            Check.same("at 20, told " + time, Look.given(x), time <= 20 ? "10000000" : "01000000");
        }
    }

    /** Promise 5: "the time of d and l, 1 to 999" */
    private static void greatestTimeOfActions() {
        Rungmaster x = new Rungmaster();
        x.step();
        x.action(0, 'd', 8, 999);
        x.action(0, 'l', 9, 999);
        x.takeOver();
        x.setPeriod(0, 1);
        for (int i = 0; i < 4; i++) {
            x.pass(200);
        }
        x.pass(198);
        Check.same("at 998", Look.given(x), "01000000");
        x.pass(1);
        Check.same("at 999", Look.given(x), "10000000");
        Check.same("time", x.stepTime(0), 999);
        x.pass(1);
        Check.same("it has no end", x.stepTime(0), 1000);
    }

    /** Promise 11: "the period, 1 to 100"; "A task is due if it has a period and the time can be divided by it" */
    private static void leastAndGreatestPeriod() {
        for (int task = 0; task < 2; task++) {
            Rungmaster x = new Rungmaster();
            x.setPeriod(0, 0);
            x.setPeriod(task, 1);
            x.pass(1);
            Check.same("at the first unit", x.scans(task), 1);
            x.pass(1);
            Check.same("at the second one", x.scans(task), 2);
            x.setPeriod(task, 100);
            x.pass(97);
            Check.same("not at 99", x.scans(task), 2);
            x.pass(1);
            Check.same("at 100", x.scans(task), 3);
            x.pass(100);
            Check.same("at 200", x.scans(task), 4);
            Check.same("none of the other task", x.scans(1 - task), 0);
        }
    }

    /** "The period of the task 0 is 10 at first, the task 1 has none, and no bit." */
    private static void noPeriod() {
        Rungmaster x = new Rungmaster();
        x.force(0, 1);
        x.pass(9);
        Check.same("not at 9", x.scans(0), 0);
        x.pass(1);
        Check.same("at 10", x.scans(0), 1);
        x.setPeriod(0, 0);
        x.pass(200);
        Check.same("none", x.scans(0), 1);
        Check.same("none", x.scans(1), 0);
    }

    /** "is read as 1 as this comes to the task 1, and was not at the unit ahead, or was set since then" */
    private static void startAtTheFirstUnit() {
        Rungmaster x = new Rungmaster();
        x.setStart(0);
        x.setInput(0, true);
        x.pass(1);
        Check.same("at the first unit", x.scans(1), 1);
        x.pass(1);
        Check.same("not at the second one", x.scans(1), 1);
        x.setInput(0, false);
        x.pass(1);
        x.setInput(0, true);
        x.pass(1);
        Check.same("rises", x.scans(1), 2);
        x.setStart(-1);
        x.setStart(0);
        x.pass(2);
        Check.same("was set, once", x.scans(1), 3);
        Rungmaster y = new Rungmaster();
        y.setStart(31);
        y.force(31, 1);
        y.pass(2);
        Check.same("the last bit", y.scans(1), 1);
    }

    /** Promise 14: "for how many further scans, 1 to 20" */
    private static void asManyLostAsTold() {
        for (int lost = 1; lost <= 20; lost += 19) {
            Rungmaster x = new Rungmaster();
            x.setPeriod(0, 1);
            x.setInput(4, true);
            x.lose(lost);
            x.pass(lost);
            Check.same("all lost", x.bit(4), 0);
            x.pass(1);
            Check.same("the next one is taken", x.bit(4), 1);
            Check.same("none left", x.lose(20), 0);
            Check.same("20 left", x.lose(1), 20);
            x.pass(1);
            Check.same("none left", x.lose(1), 0);
        }
    }

    /** "for the first scans in a row, as many as are held, 2 at first, and are 0 in further ones" */
    private static void asManyHeldAsTold() {
        int[] held = {-1, 0, 1, 9};
        for (int hold : held) {
            Rungmaster x = new Rungmaster();
            x.setPeriod(0, 1);
            x.setInput(7, true);
            x.pass(1);
            if (hold >= 0) {
                Check.same("2 at first", x.setHold(hold), 2);
            }
            int most = hold < 0 ? 2 : hold;
            x.lose(20);
            for (int i = 1; i <= 20; i++) {
                x.pass(1);
                Check.same("hold " + most + ", scan " + i, x.bit(7), i <= most ? 1 : 0);
            }
            x.pass(1);
            Check.same("taken", x.bit(7), 1);
        }
    }

    /** "If more rungs would be done than the watch of the task allows, 40 at first, the scan is dropped" */
    private static void watchIsJustKept() {
        int[] sizes = {1, 2, 39, 40};
        for (int task = 0; task < 2; task++) {
            for (int size : sizes) {
                Rungmaster x = new Rungmaster();
                for (int i = 0; i < size; i++) {
                    x.rung(task, 's', 8, 0);
                }
                x.takeOver();
                x.setPeriod(0, 0);
                x.setPeriod(task, 1);
                x.pass(1);
                Check.same("40 at first", x.missed(task), 0);
                x.setWatch(task, size);
                x.pass(1);
                Check.same("as many as allowed", x.missed(task), 0);
                Check.same("done", x.done(), 2 * size);
                if (size > 1) {
                    x.setWatch(task, size - 1);
                    x.pass(1);
                    Check.same("one more than allowed", x.missed(task), 1);
                    Check.same("done", x.done(), 2 * size);
                }
            }
        }
    }

    /** A task without rungs has scans all the same, and none is missed. */
    private static void nothingToDo() {
        Rungmaster x = new Rungmaster();
        x.setWatch(0, 1);
        x.setWatch(1, 1);
        x.setPeriod(0, 1);
        x.setPeriod(1, 1);
        x.force(8, 1);
        x.pass(3);
        Check.same("scans", x.scans(0) * 10 + x.scans(1), 33);
        Check.same("missed", x.missed(0) + x.missed(1), 0);
        Check.same("done", x.done(), 0);
        Check.same("mean", x.meanRungs(), 0.0);
        Check.same("given", x.given(0), 1);
    }

    /** "The third scan of the task 0 in a row that is missed is the fault" */
    private static void thirdMissInARow() {
        Rungmaster x = new Rungmaster();
        x.rung(0, 's', 8, 0);
        x.rung(0, 's', 9, 0);
        x.rung(1, 's', 16, 0);
        x.takeOver();
        x.setPeriod(0, 2);
        x.setPeriod(1, 2);
        x.pass(2);
        x.force(10, 1);
        x.setWatch(0, 1);
        x.pass(4);
        Check.same("two", x.isStopped(), false);
        Check.same("missed", x.missed(0), 2);
        Check.same("given by the task 1", Look.given(x), "11100000");
        x.pass(1);
        Check.same("no scan", x.isStopped(), false);
        x.pass(1);
        Check.same("three", x.isStopped(), true);
        Check.same("missed", x.missed(0), 3);
        Check.same("the task 1 came ahead of the fault", x.scans(1), 4);
        Check.same("all 0, as forced ones, too", Look.given(x), "00000000");
        x.pass(10);
        Check.same("not due", x.missed(0) * 10 + x.scans(1), 34);
    }

    /** Promise 30: "Throws IndexOutOfBoundsException if there is no such alarm" */
    private static void emptyRow() {
        Rungmaster x = new Rungmaster();
        Check.same("none", x.alarms(), 0);
        for (int index = -1; index < 8; index++) {
            int place = index;
            Check.raises("none", IndexOutOfBoundsException.class, () -> x.alarmAt(place));
        }
        for (int i = 0; i < 8; i++) {
            Check.same("nothing of these", x.alarm(i), 'n');
            Check.same("not in the row", x.acknowledge(i), false);
            Check.same("not shelved", x.shelve(i, 0), 0);
        }
        Check.same("none", x.alarms(), 0);
        Check.same("sound", x.isSound(), true);
    }

    private static Rungmaster allAlarms() {
        Rungmaster x = new Rungmaster();
        for (int i = 7; i >= 0; i--) {
            tell(x, 0, 'A', i, 0, '0', i);
        }
        x.takeOver();
        x.setPeriod(0, 1);
        x.pass(1);
        return x;
    }

    /** "There are 8 alarms and a row of them." */
    private static void fullRow() {
        Rungmaster x = allAlarms();
        Check.same("eight", x.alarms(), 8);
        Check.same("as they came", Look.row(x), "76543210");
        Check.raises("the ninth", IndexOutOfBoundsException.class, () -> x.alarmAt(8));
        Check.raises("-1", IndexOutOfBoundsException.class, () -> x.alarmAt(-1));
        x.pass(5);
        Check.same("none twice", Look.row(x), "76543210");
        Check.same("sound", x.isSound(), true);
        int[] taken = {7, 4, 0};
        for (int alarm : taken) {
            x.shelve(alarm, 999);
        }
        Check.same("without the first, one in between and the last", Look.row(x), "65321");
        Check.raises("the sixth", IndexOutOfBoundsException.class, () -> x.alarmAt(5));
        for (int alarm : taken) {
            x.shelve(alarm, 0);
        }
        Check.same("full again", Look.row(x), "65321740");
        for (int i = 0; i < 8; i++) {
            x.setInput(i, true);
            Check.same("in the row", x.acknowledge(i), true);
        }
        x.pass(1);
        Check.same("empty again", x.alarms(), 0);
        Check.same("sound", x.isSound(), true);
    }

    /** "otherwise it was acknowledged, until it leaves the row" */
    private static void acknowledgedOnesStayApart() {
        Rungmaster x = allAlarms();
        for (int i = 0; i < 8; i++) {
            Check.same("not yet", x.alarm(i), 't');
            x.acknowledge(i);
            for (int k = 0; k <= i; k++) {
                Check.same("acknowledged", x.alarm(k), 'a');
            }
        }
    }

    /** "One that goes is not there; it leaves the row if it was acknowledged." */
    private static void acknowledgedOneLeavesTheRow() {
        for (int alarm = 0; alarm < 8; alarm += 7) {
            Rungmaster x = allAlarms();
            x.acknowledge(alarm);
            x.setInput(alarm, true);
            x.pass(1);
            Check.same("out of the row", x.alarm(alarm), 'n');
            x.setInput(alarm, false);
            x.pass(1);
            Check.same("not acknowledged any more", x.alarm(alarm), 't');
            Check.same("at the end", x.alarmAt(7), alarm);
            x.setInput(alarm, true);
            x.pass(1);
            Check.same("it stays in the row", x.alarm(alarm), 'r');
            Check.same("acknowledge", x.acknowledge(alarm), true);
            Check.same("it leaves the row", x.alarm(alarm), 'n');
            x.setInput(alarm, false);
            x.pass(1);
            Check.same("and was not acknowledged", x.alarm(alarm), 't');
            x.acknowledge(alarm);
            x.shelve(alarm, 1);
            x.pass(1);
            Check.same("nor behind shelving", x.alarm(alarm), 't');
        }
    }

    /** "at the unit at which this is over, if it is there, it is put at the end of the row" */
    private static void shelvedForOneUnit() {
        Rungmaster x = allAlarms();
        Check.same("shelve", x.shelve(7, 1), 0);
        Check.same("shelved", x.alarm(7), 's');
        Check.same("out of the row", Look.row(x), "6543210");
        Check.same("sound", x.isSound(), true);
        x.pass(1);
        Check.same("over", Look.row(x), "65432107");
        Check.same("there", x.alarm(7), 't');
        Check.same("none left", x.shelve(7, 0), 0);
        Check.same("in it already", Look.row(x), "65432107");
        Rungmaster y = new Rungmaster();
        y.shelve(0, 1);
        y.pass(1);
        Check.same("over, and not there", y.alarm(0), 'n');
        Check.same("empty", y.alarms(), 0);
    }

    /** Promise 18: "for how many units, 1 to 999, or 0 to end it at once" */
    private static void shelvedForTheMostUnits() {
        Rungmaster x = allAlarms();
        x.shelve(0, 999);
        for (int i = 0; i < 4; i++) {
            x.pass(200);
        }
        x.pass(198);
        Check.same("one left", x.alarm(0), 's');
        Check.same("one left", x.shelve(0, 1), 1);
        x.pass(1);
        Check.same("over", Look.row(x), "76543210");
        Check.same("shelve", x.shelve(0, 999), 0);
        Check.same("all left", x.shelve(0, 999), 999);
        Check.same("all left", x.shelve(0, 0), 999);
        Check.same("ended at once", Look.row(x), "76543210");
    }

    /** "A reset: all of the state and the standby are as at first" */
    private static void resetOfTheFirstAlarm() {
        Rungmaster x = allAlarms();
        for (int i = 0; i < 8; i++) {
            x.acknowledge(i);
        }
        x.reset();
        Check.same("empty", x.alarms(), 0);
        x.pass(1);
        for (int i = 0; i < 8; i++) {
            Check.same("not acknowledged", x.alarm(i), 't');
            x.shelve(i, 500);
        }
        x.reset();
        for (int i = 0; i < 8; i++) {
            Check.same("not shelved", x.alarm(i), 'n');
            Check.same("none left", x.shelve(i, 0), 0);
        }
    }

    /** "a draft, which has what the code has at first, nothing, and is emptied when told" */
    private static void emptyDraftAtFirst() {
        Rungmaster x = new Rungmaster();
        Check.same("nothing", x.emptyDraft(), 0);
        Check.same("nothing", x.takeOver(), 0);
        Check.same("nothing", x.rungs(), 0);
        Check.raises("no steps", ArithmeticException.class, x::activeShare);
        Check.raises("no step", NoSuchElementException.class, () -> x.action(0, 'n', 8, 0));
        Check.raises("no rung", NoSuchElementException.class, () -> x.contact(0, '1', 0));
        for (int i = 0; i < 40; i++) {
            x.rung(0, 'k', 0, 0);
        }
        Check.same("full", x.emptyDraft(), 40);
        Check.same("empty", x.emptyDraft(), 0);
        Check.same("the first one again", x.rung(0, 's', 8, 0), 0);
    }

    /** "Steps that it does not have must not be active" */
    private static void stepsThatTheDraftMustHave() {
        Rungmaster x = new Rungmaster();
        for (int i = 0; i < 12; i++) {
            x.step();
        }
        x.transition(0, -1, 11, -1, 0, true);
        x.takeOver();
        x.setInput(0, true);
        x.pass(10);
        x.emptyDraft();
        for (int i = 0; i < 12; i++) {
            Check.raises("step 11 is active", UnsupportedOperationException.class, x::takeOver);
            x.step();
        }
        Check.same("all of them", x.takeOver(), 0);
        Check.same("active still", x.isActive(11), true);
        Check.same("sound", x.isSound(), true);
    }

    /** "but for the step 0 if the code has no steps, either" */
    private static void stepZeroOfCodeWithoutSteps() {
        Rungmaster x = new Rungmaster();
        Check.same("neither has steps", x.takeOver(), 0);
        Check.same("active", x.isActive(0), true);
        Check.same("sound", x.isSound(), true);
        x.step();
        Check.same("the draft has", x.takeOver(), 0);
        Check.same("one of one", x.activeShare(), 1.0f);
        x.emptyDraft();
        Check.raises("the code has", UnsupportedOperationException.class, x::takeOver);
        x.reset();
        Check.raises("behind a reset, too", UnsupportedOperationException.class, x::takeOver);
        x.step();
        Check.same("both have", x.takeOver(), 0);
    }

    /** "a contact with the same number of the rung, index, bit and kind there" */
    private static void lastContactKeepsWhatItSaw() {
        for (int place = 0; place < 4; place++) {
            for (int other = 0; other < 4; other++) {
                Rungmaster x = new Rungmaster();
                lastRungWithEdgeAt(x, place);
                x.takeOver();
                x.setInput(0, true);
                x.pass(10);
                Check.same("edge", x.bit(8), 1);
                x.emptyDraft();
                lastRungWithEdgeAt(x, other);
                x.takeOver();
                x.pass(10);
                Check.same("edge at " + place + ", then at " + other, x.bit(8), place == other ? 0 : 1);
            }
        }
    }

    private static void lastRungWithEdgeAt(Rungmaster x, int place) {
        for (int i = 0; i < 39; i++) {
            x.rung(0, 'k', 0, 0);
        }
        x.rung(0, '=', 8, 0);
        for (int i = 0; i < 4; i++) {
            x.contact(39, i == place ? 'u' : '1', 0);
        }
    }

    /** "likewise whether a 'C' held, with the same number of the rung and timer" */
    private static void lastCounterKeepsThatItHeld() {
        for (int size = 39; size <= 40; size++) {
            Rungmaster x = new Rungmaster();
            countersUpTo(x, 40);
            x.takeOver();
            x.pass(10);
            Check.same("each counts once", x.timer(7), 40);
            x.emptyDraft();
            countersUpTo(x, size);
            x.takeOver();
            x.emptyDraft();
            countersUpTo(x, 40);
            x.takeOver();
            x.pass(10);
            Check.same("those that were away count again", x.timer(7), 80 - size);
        }
        Rungmaster y = new Rungmaster();
        for (int i = 0; i < 40; i++) {
            tell(y, 0, 'C', 7, 999, '0', i == 39 ? 0 : 1);
        }
        y.takeOver();
        y.pass(10);
        y.setInput(0, true);
        y.pass(10);
        y.setInput(0, false);
        y.pass(10);
        Check.same("the last one holds again", y.timer(7), 41);
    }

    private static void countersUpTo(Rungmaster x, int size) {
        for (int i = 0; i < size; i++) {
            x.rung(0, 'C', 7, 999);
        }
    }

    /** "a standby that was in step and has got something since the beginning or reset" */
    private static void nothingGotSinceTheBeginning() {
        Rungmaster x = new Rungmaster();
        Check.same("in step", x.isInStep(), true);
        Check.same("nothing got", x.fail(), false);
        Check.same("stopped", x.isStopped(), true);
        Check.same("out of step", x.isInStep(), false);
        x.reset();
        x.setPeriod(1, 1);
        x.pass(9);
        Check.same("not by the task 1", x.fail(), false);
        x.reset();
        x.pass(1);
        Check.same("by one scan", x.fail(), true);
        Check.same("runs", x.isStopped(), false);
        Check.same("once", x.fail(), false);
        Check.same("stopped", x.isStopped(), true);
    }

    /** "or behind a draft that is taken over, it gets all of the state" */
    private static void emptyDraftIsSomethingGot() {
        Rungmaster x = new Rungmaster();
        x.takeOver();
        Check.same("by an empty draft", x.fail(), true);
        Rungmaster y = new Rungmaster();
        y.step();
        y.takeOver();
        y.reset();
        y.emptyDraft();
        Check.raises("refused", UnsupportedOperationException.class, y::takeOver);
        Check.same("a refused one gives nothing", y.fail(), false);
    }

    private static void resetAtTheBeginning() {
        Rungmaster x = new Rungmaster();
        String before = Look.at(x);
        Check.same("time", x.reset(), 0);
        Check.same("as at first", Look.at(x), before);
        Check.same("in step", x.come(), false);
    }

    /** Promise 16: "the number of units, 1 to 200"; "if the time would be greater than 99999" */
    private static void timeOfTheLastUnits() {
        Rungmaster x = new Rungmaster();
        x.setPeriod(0, 100);
        for (int i = 1; i <= 499; i++) {
            x.pass(200);
        }
        Check.raises("100000", IllegalStateException.class, () -> x.pass(200));
        Check.same("time", x.time(), 99800);
        Check.same("scans", x.scans(0), 998);
        Check.same("99999", x.pass(199), 99999);
        Check.raises("100000", IllegalStateException.class, () -> x.pass(1));
        Check.raises("wrong, too", IllegalArgumentException.class, () -> x.pass(201));
        Check.same("reset", x.reset(), 99999);
        Check.same("time", x.time(), 99999);
    }

    /** Promises 40 and 41: "Throws ArithmeticException if it has no steps", "if there were none" */
    private static void sharesAndMeans() {
        Rungmaster x = new Rungmaster();
        Check.raises("no steps", ArithmeticException.class, x::activeShare);
        Check.raises("no scans", ArithmeticException.class, x::meanRungs);
        x.step();
        Check.raises("no steps but in the draft", ArithmeticException.class, x::activeShare);
        x.rung(0, 'k', 0, 0);
        x.rung(0, 'k', 0, 0);
        x.takeOver();
        Check.same("one of one", x.activeShare(), 1.0f);
        x.setWatch(0, 1);
        x.pass(20);
        Check.raises("no scans but dropped ones", ArithmeticException.class, x::meanRungs);
        x.setPeriod(1, 3);
        x.pass(1);
        Check.same("one of the task 1 without rungs", x.meanRungs(), 0.0);
        x.setWatch(0, 2);
        x.pass(9);
        Check.same("two rungs in five scans", x.meanRungs(), 2.0 / 5.0);
        x.reset();
        Check.same("counts stay", x.meanRungs(), 2.0 / 5.0);
    }
}
