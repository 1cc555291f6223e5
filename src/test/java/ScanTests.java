/** Promises 9 to 16, 22, 23, 31 to 34 and 37 to 41: inputs, outputs, tasks, watch, station and counts. */
public final class ScanTests {
    public static void main(String[] args) {
        inputsAreTakenInScans();
        inputsOfTaskOne();
        forcing();
        givenAtTheEndOfAScan();
        taskOneGivesAllOutputs();
        changesOfOutputs();
        periods();
        periodWithoutTask();
        taskOneGoesFirst();
        timeEnds();
        startRises();
        startBySetStart();
        startWhileStopped();
        startIsForced();
        startOfStationAsThePlantHasIt();
        startByAnOutput();
        startByMemory();
        startAndPeriodAreOneScan();
        watchDropsAScan();
        watchCountsRungsThatAreDone();
        droppedScanChangesNothing();
        droppedScanOfTaskOne();
        fault();
        faultNeedsARow();
        lostAnswers();
        lostInPlaceOfEarlier();
        holdNone();
        holdChangesWhileLost();
        lostInDroppedScans();
        lostOnlyByTaskZero();
        counts();
        greatestAndLeast();
        Check.end();
    }

    private static void inputsAreTakenInScans() {
        Rungmaster x = new Rungmaster();
        for (int i = 0; i < 8; i++) {
            Check.same("setInput", x.setInput(i, true), false);
            Check.same("setInput again", x.setInput(i, true), true);
            Check.same("not taken yet", x.bit(i), 0);
        }
        x.pass(10);
        for (int i = 0; i < 8; i++) {
            Check.same("taken", x.bit(i), 1);
            Check.same("setInput", x.setInput(i, i % 2 == 0), true);
        }
        x.pass(9);
        Check.same("as they were", x.bit(1), 1);
        x.pass(1);
        Check.same("taken", x.bit(1) + x.bit(3) + x.bit(5) + x.bit(7), 0);
        Check.same("taken", x.bit(0) + x.bit(2) + x.bit(4) + x.bit(6), 4);
    }

    private static void inputsOfTaskOne() {
        Rungmaster x = new Rungmaster();
        x.setPeriod(1, 1);
        for (int i = 0; i < 8; i++) {
            x.setInput(i, true);
        }
        x.pass(1);
        Check.same("0 to 3", x.bit(0) + x.bit(1) + x.bit(2) + x.bit(3), 4);
        Check.same("not the station", x.bit(4) + x.bit(5) + x.bit(6) + x.bit(7), 0);
    }

    private static void forcing() {
        Rungmaster x = new Rungmaster();
        for (int i = 0; i < 32; i++) {
            Check.same("force to 1", x.force(i, 1), -1);
            Check.same("read at once", x.bit(i), 1);
            Check.same("forced", x.forced(), i + 1);
        }
        Check.same("given in a scan alone", Look.given(x), "00000000");
        for (int i = 0; i < 32; i++) {
            Check.same("force to 0", x.force(i, 0), 1);
            Check.same("read at once", x.bit(i), 0);
            Check.same("forced", x.forced(), 32);
        }
        for (int i = 0; i < 32; i++) {
            Check.same("not forced", x.force(i, -1), 0);
            Check.same("again", x.force(i, -1), -1);
            Check.same("forced", x.forced(), 31 - i);
        }
        x.force(3, 0);
        x.setInput(3, true);
        x.pass(10);
        Check.same("forced", x.bit(3), 0);
        x.force(3, -1);
        Check.same("what was taken is kept", x.bit(3), 1);
    }

    private static void givenAtTheEndOfAScan() {
        Rungmaster x = new Rungmaster();
        x.rung(0, 's', 15, 0);
        x.takeOver();
        x.pass(9);
        Check.same("none", Look.given(x), "00000000");
        x.pass(1);
        Check.same("output 7", Look.given(x), "00000001");
        x.force(8, 1);
        x.force(15, 0);
        x.pass(9);
        Check.same("as before", Look.given(x), "00000001");
        x.pass(1);
        Check.same("as forced", Look.given(x), "10000000");
    }

    private static void taskOneGivesAllOutputs() {
        Rungmaster x = new Rungmaster();
        x.setPeriod(1, 3);
        x.force(9, 1);
        x.pass(2);
        Check.same("none", Look.given(x), "00000000");
        x.pass(1);
        Check.same("output 1", Look.given(x), "01000000");
    }

    private static void changesOfOutputs() {
        Rungmaster x = new Rungmaster();
        int first = x.rung(0, '=', 8, 0);
        x.contact(first, '1', 0);
        int second = x.rung(1, '=', 8, 0);
        x.contact(second, '0', 0);
        x.takeOver();
        x.pass(10);
        Check.same("none", x.changes(0), 0);
        x.setInput(0, true);
        x.pass(10);
        Check.same("one", x.changes(0), 1);
        x.pass(10);
        Check.same("the same value", x.changes(0), 1);
        x.setPeriod(1, 10);
        x.pass(10);
        Check.same("two scans at one unit", x.changes(0), 3);
        x.reset();
        Check.same("reset gives 0", x.changes(0), 4);
        x.reset();
        Check.same("0 as before", x.changes(0), 4);
        Check.same("others", x.changes(1) + x.changes(7), 0);
        x.pass(1);
        x.fail();
        Check.same("0 as before", x.changes(0), 4);
        Rungmaster y = new Rungmaster();
        y.force(15, 1);
        y.pass(10);
        Check.same("forced", y.changes(7), 1);
        y.fail();
        y.fail();
        Check.same("stopped", y.changes(7), 2);
    }

    private static void periods() {
        Rungmaster x = new Rungmaster();
        x.pass(99);
        Check.same("period 10", x.scans(0), 9);
        Check.same("no period", x.scans(1), 0);
        Check.same("setPeriod", x.setPeriod(0, 1), 10);
        Check.same("setPeriod", x.setPeriod(1, 100), 0);
        x.pass(1);
        Check.same("100", x.scans(0), 10);
        Check.same("100", x.scans(1), 1);
        x.pass(99);
        Check.same("each", x.scans(0), 109);
        Check.same("not yet", x.scans(1), 1);
        x.pass(1);
        Check.same("200", x.scans(1), 2);
        Check.same("setPeriod", x.setPeriod(0, 0), 1);
        Check.same("setPeriod", x.setPeriod(1, 7), 100);
        x.pass(20);
        Check.same("none", x.scans(0), 110);
        Check.same("203, 210, 217", x.scans(1), 5);
    }

    private static void periodWithoutTask() {
        Rungmaster x = new Rungmaster();
        x.setPeriod(0, 0);
        x.pass(200);
        Check.same("time", x.time(), 200);
        Check.same("scans", x.scans(0) + x.scans(1), 0);
        Check.raises("no scans", ArithmeticException.class, x::meanRungs);
    }

    private static void taskOneGoesFirst() {
        Rungmaster x = new Rungmaster();
        x.rung(0, 's', 8, 0);
        int number = x.rung(1, '=', 9, 0);
        x.contact(number, '1', 8);
        x.takeOver();
        x.setPeriod(1, 10);
        x.pass(10);
        Check.same("task 1 was ahead", Look.given(x), "10000000");
        x.pass(10);
        Check.same("and sees it next", Look.given(x), "11000000");
    }

    private static void timeEnds() {
        Rungmaster x = new Rungmaster();
        for (int i = 1; i <= 499; i++) {
            Check.same("pass", x.pass(200), i * 200);
        }
        Check.raises("beyond", IllegalStateException.class, () -> x.pass(200));
        Check.raises("beyond, and wrong", IllegalArgumentException.class, () -> x.pass(201));
        Check.same("pass", x.pass(199), 99999);
        Check.raises("beyond", IllegalStateException.class, () -> x.pass(1));
        Check.raises("wrong", IllegalArgumentException.class, () -> x.pass(0));
        Check.same("time", x.time(), 99999);
        Check.same("scans", x.scans(0), 9999);
    }

    private static void startRises() {
        Rungmaster x = new Rungmaster();
        Check.same("setStart", x.setStart(0), -1);
        x.pass(3);
        Check.same("0", x.scans(1), 0);
        x.setInput(0, true);
        x.pass(5);
        Check.same("rises once", x.scans(1), 1);
        x.setInput(0, false);
        x.setInput(0, true);
        x.pass(1);
        Check.same("1 at both units", x.scans(1), 1);
        x.setInput(0, false);
        x.pass(1);
        x.setInput(0, true);
        x.pass(1);
        Check.same("rises again", x.scans(1), 2);
        Check.same("setStart", x.setStart(31), 0);
        Check.same("setStart", x.setStart(-1), 31);
        x.setInput(0, false);
        x.pass(1);
        x.setInput(0, true);
        x.pass(1);
        Check.same("none", x.scans(1), 2);
    }

    private static void startBySetStart() {
        Rungmaster x = new Rungmaster();
        x.setInput(1, true);
        x.setInput(2, true);
        x.pass(20);
        x.setStart(1);
        x.pass(1);
        Check.same("was set since then", x.scans(1), 1);
        x.pass(5);
        Check.same("once", x.scans(1), 1);
        x.setStart(2);
        x.pass(5);
        Check.same("another one", x.scans(1), 2);
        x.setStart(2);
        x.pass(5);
        Check.same("the same one again", x.scans(1), 3);
        x.setStart(-1);
        x.setStart(2);
        x.pass(5);
        Check.same("none, and again", x.scans(1), 4);
    }

    private static void startWhileStopped() {
        Rungmaster x = new Rungmaster();
        x.setStart(0);
        x.fail();
        x.setInput(0, true);
        x.pass(2);
        Check.same("stopped", x.scans(1), 0);
        x.reset();
        x.pass(2);
        Check.same("it was 1 at the unit ahead", x.scans(1), 0);
        x.setInput(0, false);
        x.pass(1);
        x.setInput(0, true);
        x.reset();
        x.pass(1);
        Check.same("it was 0", x.scans(1), 1);
        x.reset();
        x.pass(1);
        Check.same("a reset is no new start", x.scans(1), 1);
    }

    private static void startIsForced() {
        Rungmaster x = new Rungmaster();
        x.setStart(0);
        x.force(0, 0);
        x.setInput(0, true);
        x.pass(2);
        Check.same("forced to 0", x.scans(1), 0);
        x.force(0, 1);
        x.pass(2);
        Check.same("forced to 1", x.scans(1), 1);
        x.force(0, -1);
        x.pass(2);
        Check.same("the plant has 1", x.scans(1), 1);
        x.setStart(20);
        x.pass(1);
        x.force(20, 1);
        x.pass(2);
        Check.same("memory", x.scans(1), 2);
    }

    private static void startOfStationAsThePlantHasIt() {
        Rungmaster x = new Rungmaster();
        x.setStart(7);
        x.lose(20);
        x.setInput(7, true);
        x.pass(1);
        Check.same("scans", x.scans(1), 1);
        Check.same("not taken", x.bit(7), 0);
    }

    private static void startByAnOutput() {
        Rungmaster x = new Rungmaster();
        x.rung(0, 's', 8, 0);
        x.takeOver();
        x.setStart(8);
        x.pass(11);
        Check.same("as it is read", x.scans(1), 1);
    }

    private static void startByMemory() {
        Rungmaster x = new Rungmaster();
        int number = x.rung(0, '=', 16, 0);
        x.contact(number, '0', 0);
        x.takeOver();
        x.setStart(16);
        x.pass(10);
        Check.same("task 0 was behind task 1", x.scans(1), 0);
        x.pass(1);
        Check.same("the unit behind", x.scans(1), 1);
        x.pass(19);
        Check.same("1 all the time", x.scans(1), 1);
        Rungmaster y = new Rungmaster();
        y.rung(1, 's', 16, 0);
        y.takeOver();
        y.setStart(16);
        y.setPeriod(1, 5);
        y.pass(5);
        Check.same("by period", y.scans(1), 1);
        y.pass(1);
        Check.same("set by itself behind the look", y.scans(1), 2);
        y.pass(3);
        Check.same("seen", y.scans(1), 2);
    }

    private static void startAndPeriodAreOneScan() {
        Rungmaster x = new Rungmaster();
        x.setStart(0);
        x.setPeriod(1, 1);
        x.setInput(0, true);
        x.pass(1);
        Check.same("one", x.scans(1), 1);
        x.setPeriod(1, 0);
        x.pass(1);
        Check.same("it was seen", x.scans(1), 1);
    }

    private static Rungmaster watched() {
        Rungmaster x = new Rungmaster();
        x.rung(0, '+', 1, 2);
        x.rung(0, 'k', 2, 1);
        x.rung(0, 's', 8, 0);
        x.rung(1, 'R', 0, 99);
        x.rung(1, 's', 9, 0);
        x.takeOver();
        return x;
    }

    private static void watchDropsAScan() {
        Rungmaster x = watched();
        Check.same("setWatch", x.setWatch(0, 3), 40);
        x.pass(10);
        Check.same("as many as allowed", x.missed(0), 0);
        Check.same("setWatch", x.setWatch(0, 2), 3);
        x.pass(10);
        Check.same("one more", x.missed(0), 1);
        Check.same("not counted", x.scans(0), 1);
        Check.same("not done", x.done(), 3);
        Check.same("setWatch", x.setWatch(1, 1), 40);
        Check.same("of task 0", x.setWatch(0, 40), 2);
    }

    private static void watchCountsRungsThatAreDone() {
        Rungmaster x = new Rungmaster();
        int jump = x.rung(0, 'J', 0, 4);
        x.contact(jump, '1', 0);
        x.rung(0, 's', 8, 0);
        x.rung(1, 's', 9, 0);
        x.rung(0, 's', 10, 0);
        int last = x.rung(0, 's', 11, 0);
        x.contact(last, '0', 0);
        x.takeOver();
        x.setWatch(0, 2);
        x.pass(10);
        Check.same("four", x.missed(0), 1);
        x.setInput(0, true);
        x.pass(10);
        Check.same("two, one of which does not hold", x.missed(0), 1);
        Check.same("done", x.done(), 2);
        x.setWatch(0, 1);
        x.pass(10);
        Check.same("two", x.missed(0), 2);
    }

    private static void droppedScanChangesNothing() {
        Rungmaster x = new Rungmaster();
        x.step();
        x.step();
        x.action(1, 'n', 15, 0);
        x.transition(0, -1, 1, -1, 0, true);
        x.rung(0, '=', 8, 0);
        x.rung(0, 'T', 1, 50);
        x.rung(0, 'C', 2, 50);
        x.rung(0, 'k', 1, 5);
        int alarm = x.rung(0, 'A', 3, 0);
        x.contact(alarm, '1', 1);
        x.rung(0, 's', 16, 0);
        int edge = x.rung(0, '+', 2, 1);
        x.contact(edge, 'u', 0);
        x.rung(0, 'J', 0, 0);
        x.takeOver();
        x.setInput(0, true);
        x.setInput(1, true);
        x.setInput(4, true);
        x.setWatch(0, 7);
        x.pass(10);
        Check.same("as behind taking the inputs", Look.at(x), "time 10 bits 11001000000000000000000000000000"
            + " given 00000000 changes 0 0 0 0 0 0 0 0 numbers 0 0 0 0 0 0 0 0 timers 0 0 0 0 0 0 0 0 steps 0@0"
            + " alarms nnnnnnnn row scans 0 0 missed 1 0 runs in step rungs 8 forced 0 done 0 share 0.5 sound");
        x.setWatch(0, 8);
        x.pass(10);
        Check.same("timer since the beginning", x.timer(1), 20);
        Check.same("counter", x.timer(2), 1);
        Check.same("edge not seen yet", x.number(2), 5);
        Check.same("alarm", Look.row(x), "3");
        Check.same("step", x.isActive(1), true);
        x.setInput(1, false);
        x.setWatch(0, 7);
        x.pass(10);
        Check.same("alarm", x.alarm(3), 't');
        x.setWatch(0, 8);
        x.pass(10);
        Check.same("alarm", x.alarm(3), 'r');
        Check.same("timer", x.timer(1), 40);
    }

    private static void droppedScanOfTaskOne() {
        Rungmaster x = watched();
        x.setPeriod(1, 4);
        x.setWatch(1, 1);
        x.setInput(2, true);
        x.force(10, 1);
        x.pass(9);
        Check.same("missed", x.missed(1), 2);
        Check.same("not of task 0", x.missed(0), 0);
        Check.same("timer", x.timer(0), 0);
        Check.same("inputs are taken", x.bit(2), 1);
        Check.same("nothing is given", Look.given(x), "00000000");
        x.setPeriod(0, 0);
        x.pass(91);
        Check.same("no fault by task 1", x.isStopped(), false);
        Check.same("missed", x.missed(1), 25);
        x.setWatch(1, 2);
        x.pass(4);
        Check.same("since the beginning", x.timer(0), 99);
        Check.same("bit", x.bit(24), 1);
    }

    private static void fault() {
        Rungmaster x = watched();
        x.force(15, 1);
        x.setPeriod(1, 30);
        x.pass(10);
        Check.same("given", Look.given(x), "10000001");
        x.setWatch(0, 1);
        x.pass(20);
        Check.same("two", x.isStopped(), false);
        Check.same("given", Look.given(x), "11000001");
        x.pass(10);
        Check.same("three", x.isStopped(), true);
        Check.same("all 0, as forced ones, too", Look.given(x), "00000000");
        Check.same("kept", x.bit(8), 1);
        Check.same("missed", x.missed(0), 3);
        Check.same("changes", x.changes(7), 2);
        Check.same("still in step", x.isInStep(), true);
        x.setWatch(0, 40);
        x.pass(100);
        Check.same("no task is due", x.scans(0) * 100 + x.scans(1), 101);
        Check.same("missed", x.missed(0), 3);
        Check.same("time goes on", x.time(), 140);
        x.reset();
        Check.same("given as forced", Look.given(x), "00000001");
        x.pass(10);
        Check.same("due", x.scans(0), 2);
        x.setWatch(0, 1);
        x.pass(20);
        Check.same("the row is as at first", x.isStopped(), false);
        x.pass(10);
        Check.same("three", x.isStopped(), true);
    }

    private static void faultNeedsARow() {
        Rungmaster x = watched();
        for (int i = 0; i < 4; i++) {
            x.setWatch(0, 2);
            x.pass(20);
            x.setWatch(0, 3);
            x.pass(10);
        }
        Check.same("missed", x.missed(0), 8);
        Check.same("never three in a row", x.isStopped(), false);
        x.setWatch(0, 2);
        x.pass(20);
        x.reset();
        x.pass(20);
        Check.same("a reset between", x.isStopped(), false);
        x.pass(10);
        Check.same("three", x.isStopped(), true);
    }

    private static Rungmaster stationOne() {
        Rungmaster x = new Rungmaster();
        for (int i = 3; i < 8; i++) {
            x.setInput(i, true);
        }
        x.pass(10);
        return x;
    }

    private static void lostAnswers() {
        Rungmaster x = stationOne();
        Check.same("lose", x.lose(3), 0);
        for (int i = 3; i < 8; i++) {
            x.setInput(i, false);
        }
        x.pass(10);
        Check.same("0 to 3 are taken", x.bit(3), 0);
        Check.same("held", x.bit(4) + x.bit(5) + x.bit(6) + x.bit(7), 4);
        x.pass(10);
        Check.same("held twice", x.bit(4) + x.bit(5) + x.bit(6) + x.bit(7), 4);
        x.setInput(7, true);
        x.pass(10);
        Check.same("0", x.bit(4) + x.bit(5) + x.bit(6) + x.bit(7), 0);
        x.pass(10);
        Check.same("taken", x.bit(7), 1);
        x.setInput(7, false);
        x.lose(1);
        x.pass(10);
        Check.same("a new row is held again", x.bit(7), 1);
        x.pass(10);
        Check.same("taken", x.bit(7), 0);
    }

    private static void lostInPlaceOfEarlier() {
        Rungmaster x = stationOne();
        x.lose(20);
        x.pass(10);
        Check.same("left", x.lose(1), 19);
        x.setInput(4, false);
        x.pass(10);
        Check.same("the second of the row", x.bit(4), 1);
        x.lose(2);
        x.pass(10);
        Check.same("the third, for nothing was taken between", x.bit(4), 0);
        Check.same("left", x.lose(1), 1);
        Check.same("left", x.lose(5), 1);
        x.pass(20);
        Check.same("reset", x.reset(), 60);
        Check.same("nothing is lost", x.lose(1), 0);
    }

    private static void holdNone() {
        Rungmaster x = stationOne();
        Check.same("setHold", x.setHold(0), 2);
        x.lose(1);
        x.pass(10);
        Check.same("0 at once", x.bit(4), 0);
        Check.same("setHold", x.setHold(9), 0);
        x.pass(10);
        x.lose(20);
        x.pass(90);
        Check.same("nine", x.bit(4), 1);
        x.pass(10);
        Check.same("the tenth", x.bit(4), 0);
        x.reset();
        Check.same("hold stays", x.setHold(3), 9);
    }

    private static void holdChangesWhileLost() {
        Rungmaster x = stationOne();
        x.lose(20);
        x.pass(20);
        Check.same("held", x.bit(5), 1);
        x.setHold(3);
        x.pass(10);
        Check.same("third", x.bit(5), 1);
        x.setHold(1);
        x.pass(10);
        Check.same("fourth", x.bit(5), 0);
        x.setHold(9);
        x.pass(10);
        Check.same("stays 0", x.bit(5), 0);
    }

    private static void lostInDroppedScans() {
        Rungmaster x = stationOne();
        x.rung(0, 's', 16, 0);
        x.rung(0, 's', 17, 0);
        x.takeOver();
        x.setWatch(0, 1);
        x.setHold(1);
        x.lose(3);
        x.pass(20);
        Check.same("the second one was lost, too", x.bit(4), 0);
        Check.same("left", x.lose(3), 1);
    }

    private static void lostOnlyByTaskZero() {
        Rungmaster x = stationOne();
        x.setPeriod(1, 1);
        x.lose(2);
        x.pass(9);
        Check.same("left", x.lose(2), 2);
        x.pass(11);
        Check.same("all lost", x.lose(1), 0);
        Check.same("held", x.bit(4), 1);
    }

    private static void counts() {
        Rungmaster x = watched();
        x.setPeriod(1, 3);
        x.pass(12);
        Check.same("done", x.done(), 3 + 4 * 2);
        Check.same("mean", x.meanRungs(), 11.0 / 5.0);
        x.reset();
        Check.same("counts stay", x.done(), 11);
        Check.same("counts stay", x.scans(0) * 10 + x.scans(1), 14);
        x.emptyDraft();
        x.takeOver();
        x.pass(200);
        Check.same("nothing to do", x.done(), 11);
        Check.same("time", x.time(), 212);
        Check.same("mean", x.meanRungs(), 11.0 / (x.scans(0) + x.scans(1)));
    }

    /** The ends of each range are taken, and the answer is the value before. */
    private static void greatestAndLeast() {
        Rungmaster x = new Rungmaster();
        for (int task = 0; task < 2; task++) {
            Check.same("setPeriod", x.setPeriod(task, 100), task == 0 ? 10 : 0);
            Check.same("setPeriod", x.setPeriod(task, 1), 100);
            Check.same("setPeriod", x.setPeriod(task, 0), 1);
            Check.same("setPeriod", x.setPeriod(task, 0), 0);
            Check.same("setWatch", x.setWatch(task, 1), 40);
            Check.same("setWatch", x.setWatch(task, 40), 1);
            Check.same("setWatch", x.setWatch(task, 40), 40);
        }
        Check.same("setStart", x.setStart(31), -1);
        Check.same("setStart", x.setStart(0), 31);
        Check.same("setStart", x.setStart(-1), 0);
        Check.same("lose", x.lose(20), 0);
        Check.same("lose", x.lose(1), 20);
        Check.same("lose", x.lose(1), 1);
        Check.same("setHold", x.setHold(9), 2);
        Check.same("setHold", x.setHold(0), 9);
        Check.same("setHold", x.setHold(0), 0);
        Check.same("pass", x.pass(200), 200);
        Check.same("pass", x.pass(1), 201);
        Check.same("shelve", x.shelve(7, 999), 0);
        Check.same("shelve", x.shelve(7, 1), 999);
        Check.same("shelve", x.shelve(7, 0), 1);
        Check.same("setInput", x.setInput(7, true), false);
        Check.same("setInput", x.setInput(7, false), true);
        Check.same("setInput", x.setInput(0, false), false);
        Check.same("questions", x.scans(1) + x.missed(1) + x.changes(7) + x.number(7) + x.timer(7) + x.given(7), 0);
    }
}
