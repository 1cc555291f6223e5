/** Promises 19 to 21, 34 and 35: the standby, its takeover, and a reset. */
public final class StandbyTests {
    public static void main(String[] args) {
        failsBeforeAnythingWasGot();
        failsWithAStandbyInStep();
        draftThatIsTakenOverIsGot();
        draftIsNotGotOutOfStep();
        whatADraftKeepsIsGot();
        allOfTheStateIsGot();
        whatWasSeenIsGot();
        taskOneIsGotWithTaskZeroAlone();
        shelvingIsGot();
        rowIsGot();
        missedInARowIsGot();
        whatStaysAtATakeover();
        startGoesOnAtATakeover();
        stationGoesOnAtATakeover();
        taskZeroIsDueBehindATakeover();
        dueBehindATakeoverWithoutPeriod();
        resetEndsWhatIsDueBehindATakeover();
        secondFailure();
        forcedOutputsOfAFailure();
        standbyComes();
        standbyComesWithAScanThatIsNotDropped();
        standbyThatCameIsGone();
        standbyOfAFault();
        resetClears();
        resetClearsWhatWasSeen();
        resetGivesForcedOutputs();
        resetSetsTimesOfLastScans();
        Check.end();
    }

    private static Rungmaster counting() {
        Rungmaster x = new Rungmaster();
        x.rung(0, '+', 1, 2);
        x.rung(0, 'k', 2, 1);
        x.rung(0, '=', 8, 0);
        x.rung(1, '+', 3, 2);
        x.takeOver();
        return x;
    }

    private static void failsBeforeAnythingWasGot() {
        Rungmaster x = new Rungmaster();
        Check.same("in step", x.isInStep(), true);
        x.pass(9);
        Check.same("fail", x.fail(), false);
        Check.same("stopped", x.isStopped(), true);
        Check.same("in step", x.isInStep(), false);
        x.pass(50);
        Check.same("no scan", x.scans(0), 0);
        Check.same("reset", x.reset(), 59);
        Check.same("in step", x.isInStep(), true);
        Check.same("stopped", x.isStopped(), false);
        Check.same("it has nothing since the reset", x.fail(), false);
        Rungmaster y = counting();
        y.pass(30);
        y.reset();
        Check.same("it has nothing since the reset", y.fail(), false);
    }

    private static void failsWithAStandbyInStep() {
        Rungmaster x = new Rungmaster();
        x.pass(10);
        Check.same("fail", x.fail(), true);
        Check.same("stopped", x.isStopped(), false);
        Check.same("in step", x.isInStep(), false);
        Check.same("fail", x.fail(), false);
        Check.same("stopped", x.isStopped(), true);
    }

    private static void draftThatIsTakenOverIsGot() {
        Rungmaster x = new Rungmaster();
        x.rung(0, 's', 8, 0);
        x.takeOver();
        Check.same("fail", x.fail(), true);
        Rungmaster y = counting();
        y.setPeriod(1, 1);
        y.pass(18);
        Check.same("number", y.number(3), 8);
        y.takeOver();
        y.pass(1);
        Check.same("number", y.number(3), 9);
        Check.same("fail", y.fail(), true);
        Check.same("as behind takeOver", y.number(3), 8);
    }

    private static void draftIsNotGotOutOfStep() {
        Rungmaster x = counting();
        x.pass(10);
        x.fail();
        x.come();
        x.takeOver();
        Check.same("in step", x.isInStep(), false);
        Check.same("fail", x.fail(), false);
    }

    /** What the new code has not seen is not seen by the standby, either. */
    private static void whatADraftKeepsIsGot() {
        for (int rising = 0; rising < 2; rising++) {
            Rungmaster x = new Rungmaster();
            edgeAndCounter(x, 0, 1);
            x.takeOver();
            x.setInput(0, true);
            x.setInput(1, true);
            x.pass(10);
            Check.same("edge and count", x.bit(8) * 10 + x.timer(1), 11);
            x.emptyDraft();
            edgeAndCounter(x, rising, 1 + rising);
            x.takeOver();
            Check.same("fail", x.fail(), true);
            x.pass(1);
            Check.same("edge", x.bit(8), rising);
            Check.same("count", x.timer(1 + rising), 1);
        }
    }

    private static void edgeAndCounter(Rungmaster x, int bit, int timer) {
        int edge = x.rung(0, '=', 8, 0);
        x.contact(edge, 'u', bit);
        x.rung(0, 'C', timer, 9);
    }

    private static void allOfTheStateIsGot() {
        Rungmaster x = new Rungmaster();
        x.step();
        x.step();
        x.transition(0, -1, 1, -1, 1, true);
        x.rung(1, 's', 16, 0);
        x.rung(1, 'k', 1, 5);
        x.rung(1, 'R', 2, 500);
        int alarm = x.rung(1, 'A', 3, 0);
        x.contact(alarm, '1', 0);
        x.takeOver();
        x.pass(10);
        x.setInput(0, true);
        x.setInput(1, true);
        x.setPeriod(1, 15);
        String before = Look.at(x);
        x.pass(5);
        Check.same("bits", x.bit(0) + x.bit(16), 2);
        Check.same("alarms", Look.row(x), "3");
        Check.same("fail", x.fail(), true);
        String due = before.replace("time 10", "time 15").replace("scans 1 0", "scans 1 1")
            .replace("in step", "out of step").replace("done 0", "done 4").replace("mean 0.0", "mean 2.0");
        Check.same("as it was at 10", Look.at(x), due);
        x.pass(5);
        Check.same("steps of the scan at 16", x.isActive(1), true);
        Check.same("time since", x.stepTime(1), 4);
    }

    private static void whatWasSeenIsGot() {
        Rungmaster x = new Rungmaster();
        int edge = x.rung(1, 's', 8, 0);
        x.contact(edge, 'u', 0);
        int count = x.rung(1, 'C', 1, 9);
        x.contact(count, '1', 0);
        x.takeOver();
        x.setPeriod(1, 1);
        x.pass(10);
        x.setInput(0, true);
        x.pass(1);
        Check.same("edge", x.bit(8), 1);
        Check.same("counted", x.timer(1), 1);
        Check.same("fail", x.fail(), true);
        Check.same("not yet", x.bit(8) + x.timer(1), 0);
        x.pass(1);
        Check.same("edge again", x.bit(8), 1);
        Check.same("counted again", x.timer(1), 1);
    }

    private static void taskOneIsGotWithTaskZeroAlone() {
        Rungmaster x = counting();
        x.setPeriod(1, 3);
        x.pass(19);
        Check.same("three since", x.number(3), 3);
        x.fail();
        Check.same("at 10", x.number(3), 0);
        Rungmaster y = new Rungmaster();
        y.rung(1, 'R', 0, 999);
        y.takeOver();
        y.setPeriod(1, 3);
        y.pass(19);
        Check.same("18", y.timer(0), 18);
        y.fail();
        Check.same("9 at 10", y.timer(0), 9);
        y.pass(2);
        Check.same("since the last scan at 9", y.timer(0), 21);
    }

    private static void shelvingIsGot() {
        Rungmaster x = new Rungmaster();
        int alarm = x.rung(0, 'A', 0, 0);
        x.contact(alarm, '1', 0);
        x.takeOver();
        x.setInput(0, true);
        x.shelve(0, 15);
        x.pass(12);
        x.shelve(1, 100);
        x.fail();
        Check.same("not shelved then", x.alarm(1), 'n');
        x.pass(4);
        Check.same("five were left at 10", x.alarm(0), 's');
        x.pass(1);
        Check.same("over", Look.row(x), "0");
        Rungmaster y = new Rungmaster();
        int other = y.rung(0, 'A', 0, 0);
        y.contact(other, '1', 0);
        y.takeOver();
        y.setInput(0, true);
        y.pass(10);
        y.acknowledge(0);
        y.pass(1);
        y.fail();
        Check.same("not acknowledged then", y.alarm(0), 't');
    }

    private static void rowIsGot() {
        Rungmaster x = new Rungmaster();
        x.rung(0, 'A', 4, 0);
        x.rung(0, 'A', 2, 0);
        x.takeOver();
        x.pass(10);
        x.shelve(4, 99);
        x.shelve(4, 0);
        Check.same("row", Look.row(x), "24");
        x.fail();
        Check.same("as it was", Look.row(x), "42");
        Check.same("sound", x.isSound(), true);
    }

    private static void missedInARowIsGot() {
        Rungmaster x = counting();
        x.pass(10);
        x.setWatch(0, 1);
        x.pass(20);
        x.fail();
        x.pass(1);
        Check.same("the third one, but the row was 0", x.missed(0), 3);
        Check.same("runs", x.isStopped(), false);
        x.pass(9);
        Check.same("second of the row", x.isStopped(), false);
        x.pass(10);
        Check.same("third", x.isStopped(), true);
        Rungmaster y = counting();
        y.setWatch(0, 1);
        y.pass(20);
        y.takeOver();
        y.fail();
        y.pass(1);
        Check.same("third of the row", y.isStopped(), true);
    }

    private static void whatStaysAtATakeover() {
        Rungmaster x = counting();
        x.pass(10);
        x.setPeriod(1, 1);
        x.setWatch(1, 7);
        x.setStart(5);
        x.force(9, 1);
        x.setInput(0, true);
        x.pass(1);
        Check.same("given", Look.given(x), "11000000");
        x.emptyDraft();
        Check.same("fail", x.fail(), true);
        Check.same("given", Look.given(x), "11000000");
        Check.same("changes", x.changes(0) * 10 + x.changes(1), 11);
        Check.same("forced", x.force(9, -1), 1);
        Check.same("rungs", x.rungs(), 4);
        Check.same("scans", x.scans(0) * 10 + x.scans(1), 11);
        Check.same("done", x.done(), 4);
        Check.same("period", x.setPeriod(1, 0), 1);
        Check.same("watch", x.setWatch(1, 40), 7);
        Check.same("start", x.setStart(-1), 5);
        Check.same("input", x.setInput(0, false), true);
        Check.same("draft", x.rung(0, 's', 8, 0), 0);
        Check.same("time", x.time(), 11);
    }

    private static void startGoesOnAtATakeover() {
        Rungmaster x = new Rungmaster();
        x.pass(10);
        x.setStart(0);
        x.setInput(0, true);
        x.pass(1);
        Check.same("started", x.scans(1), 1);
        x.fail();
        x.pass(1);
        Check.same("it was 1 at the unit ahead", x.scans(1), 1);
        Rungmaster y = new Rungmaster();
        y.rung(1, 's', 16, 0);
        y.takeOver();
        y.pass(10);
        y.setStart(16);
        y.setPeriod(1, 11);
        y.pass(1);
        y.setPeriod(1, 0);
        y.fail();
        Check.same("the bit is as in the state", y.bit(16), 0);
        y.pass(5);
        Check.same("not started", y.scans(1), 1);
    }

    private static void stationGoesOnAtATakeover() {
        Rungmaster x = new Rungmaster();
        x.setInput(4, true);
        x.pass(10);
        x.lose(5);
        x.setHold(3);
        x.pass(20);
        x.fail();
        Check.same("setHold", x.setHold(3), 3);
        x.pass(1);
        Check.same("third of the row", x.bit(4), 1);
        x.pass(9);
        Check.same("fourth of the row", x.bit(4), 0);
        Check.same("left", x.lose(1), 1);
    }

    private static void taskZeroIsDueBehindATakeover() {
        Rungmaster x = counting();
        x.pass(13);
        x.fail();
        x.pass(1);
        Check.same("due", x.scans(0), 2);
        x.pass(5);
        Check.same("once", x.scans(0), 2);
        x.pass(1);
        Check.same("and by its period", x.scans(0), 3);
        x.come();
        x.pass(9);
        Check.same("not yet", x.isInStep(), false);
        x.pass(1);
        Check.same("by the next scan", x.isInStep(), true);
        Rungmaster y = counting();
        y.pass(19);
        y.fail();
        y.pass(1);
        Check.same("one scan if it is due by both", y.scans(0), 2);
    }

    private static void dueBehindATakeoverWithoutPeriod() {
        Rungmaster x = counting();
        x.setPeriod(0, 0);
        x.pass(5);
        Check.same("it has got the draft", x.fail(), true);
        x.pass(10);
        Check.same("one", x.scans(0), 1);
    }

    private static void resetEndsWhatIsDueBehindATakeover() {
        Rungmaster x = counting();
        x.pass(13);
        x.fail();
        x.reset();
        x.pass(1);
        Check.same("not due", x.scans(0), 1);
    }

    private static void secondFailure() {
        Rungmaster x = counting();
        x.pass(10);
        x.fail();
        x.fail();
        Check.same("stopped", x.isStopped(), true);
        x.pass(20);
        Check.same("not due", x.scans(0), 1);
        Check.same("time", x.time(), 30);
        Check.same("given", Look.given(x), "00000000");
        Check.same("read", x.bit(8), 1);
    }

    private static void forcedOutputsOfAFailure() {
        Rungmaster x = new Rungmaster();
        x.force(8, 1);
        x.force(9, 1);
        x.pass(10);
        x.fail();
        Check.same("stays", Look.given(x), "11000000");
        x.fail();
        Check.same("all 0", Look.given(x), "00000000");
        Check.same("still forced", x.bit(8), 1);
        Check.same("changes", x.changes(0), 2);
    }

    private static void standbyComes() {
        Rungmaster x = counting();
        Check.same("one in step", x.come(), false);
        x.pass(10);
        x.fail();
        Check.same("come", x.come(), true);
        Check.same("came before", x.come(), false);
        Check.same("not yet", x.isInStep(), false);
        x.setPeriod(1, 1);
        x.setPeriod(0, 0);
        x.pass(1);
        Check.same("behind the takeover", x.isInStep(), true);
        Check.same("one in step", x.come(), false);
        x.pass(5);
        int now = x.number(3);
        Check.same("fail", x.fail(), true);
        Check.same("as at its scan", x.number(3), now - 5);
        x.come();
        x.pass(1);
        x.fail();
        x.come();
        x.setPeriod(0, 50);
        x.fail();
        Check.same("stopped", x.isStopped(), true);
    }

    private static void standbyComesWithAScanThatIsNotDropped() {
        Rungmaster x = counting();
        x.pass(10);
        x.fail();
        x.come();
        x.setWatch(0, 1);
        x.pass(1);
        Check.same("dropped", x.isInStep(), false);
        x.setPeriod(1, 1);
        x.pass(3);
        Check.same("not by task 1", x.isInStep(), false);
        x.setWatch(0, 3);
        x.pass(6);
        Check.same("by the scan at 20", x.isInStep(), true);
        Check.same("fail", x.fail(), true);
    }

    private static void standbyThatCameIsGone() {
        Rungmaster x = counting();
        x.pass(10);
        x.fail();
        x.come();
        Check.same("not in step yet", x.fail(), false);
        Check.same("gone", x.come(), true);
        Check.same("came", x.come(), false);
        x.pass(30);
        Check.same("no scans", x.isInStep(), false);
        x.reset();
        Check.same("one in step", x.come(), false);
        x.pass(20);
        x.fail();
        Check.same("none came before", x.come(), true);
    }

    private static void standbyOfAFault() {
        Rungmaster x = counting();
        x.pass(10);
        x.setWatch(0, 1);
        x.pass(30);
        Check.same("fault", x.isStopped(), true);
        x.setInput(0, true);
        Check.same("fail", x.fail(), true);
        Check.same("still stopped", x.isStopped(), true);
        Check.same("given", Look.given(x), "00000000");
        x.setWatch(0, 40);
        x.pass(20);
        Check.same("no scan", x.scans(0), 1);
        x.reset();
        x.pass(10);
        Check.same("due", x.scans(0), 2);
    }

    private static void resetClears() {
        Rungmaster x = new Rungmaster();
        x.step();
        x.step();
        x.transition(0, -1, 1, -1, 1, true);
        x.rung(0, 's', 8, 0);
        x.rung(0, 'k', 1, 5);
        x.rung(0, 'R', 2, 500);
        x.rung(0, 'C', 3, 500);
        int edge = x.rung(0, '+', 4, 1);
        x.contact(edge, 'u', 1);
        x.rung(0, 'A', 5, 0);
        x.takeOver();
        x.emptyDraft();
        x.rung(0, 's', 8, 0);
        x.setInput(1, true);
        x.setWatch(0, 6);
        x.setPeriod(1, 100);
        x.setHold(5);
        x.setStart(3);
        x.lose(9);
        x.pass(23);
        x.lose(9);
        Check.same("reset", x.reset(), 23);
        Check.same("as at first", Look.at(x), "time 23 bits 00000000000000000000000000000000 given 00000000"
            + " changes 2 0 0 0 0 0 0 0 numbers 0 0 0 0 0 0 0 0 timers 0 0 0 0 0 0 0 0 steps 0@0"
            + " alarms nnnnnnnn row scans 2 0 missed 0 0 runs in step rungs 6 forced 0 done 12 mean 6.0"
            + " share 0.5 sound");
        Check.same("lost", x.lose(1), 0);
        Check.same("input", x.setInput(1, true), true);
        Check.same("watch", x.setWatch(0, 40), 6);
        Check.same("period", x.setPeriod(1, 0), 100);
        Check.same("hold", x.setHold(2), 5);
        Check.same("start", x.setStart(-1), 3);
        Check.same("draft", x.emptyDraft(), 1);
        x.pass(7);
        Check.same("edge", x.number(4), 5);
        Check.same("counted", x.timer(3), 1);
    }

    private static void resetClearsWhatWasSeen() {
        Rungmaster x = new Rungmaster();
        int edge = x.rung(0, 's', 8, 0);
        x.contact(edge, 'u', 1);
        x.takeOver();
        x.setInput(1, true);
        x.pass(10);
        Check.same("edge", x.bit(8), 1);
        x.reset();
        Check.same("0", x.bit(8), 0);
        x.pass(10);
        Check.same("edge again", x.bit(8), 1);
        Rungmaster y = new Rungmaster();
        y.rung(0, 'C', 0, 9);
        y.takeOver();
        y.pass(20);
        y.reset();
        y.pass(20);
        Check.same("it held once", y.timer(0), 1);
    }

    private static void resetGivesForcedOutputs() {
        Rungmaster x = new Rungmaster();
        x.rung(0, 's', 8, 0);
        x.rung(0, 's', 10, 0);
        x.takeOver();
        x.force(8, 0);
        x.force(9, 1);
        x.force(20, 1);
        x.force(0, 1);
        x.reset();
        Check.same("as forced", Look.given(x), "01000000");
        x.pass(10);
        Check.same("given", Look.given(x), "01100000");
        x.force(8, -1);
        x.force(9, 0);
        x.reset();
        Check.same("as forced", Look.given(x), "00000000");
        Check.same("changes", x.changes(0) * 100 + x.changes(1) * 10 + x.changes(2), 22);
        Check.same("forced", x.forced(), 3);
    }

    private static void resetSetsTimesOfLastScans() {
        Rungmaster x = new Rungmaster();
        x.step();
        x.rung(0, 'R', 0, 500);
        x.rung(1, 'R', 1, 500);
        x.takeOver();
        x.pass(14);
        x.reset();
        x.setPeriod(1, 3);
        x.pass(6);
        Check.same("since the reset", x.timer(0), 6);
        Check.same("since the reset", x.timer(1), 4);
        Check.same("since the reset", x.stepTime(0), 6);
    }
}
