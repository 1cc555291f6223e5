/** Promises 17, 18, 28 to 30 and 42: alarms, their row, and shelving. */
public final class AlarmTests {
    public static void main(String[] args) {
        comesAndGoes();
        rowIsInOrder();
        comesAgainWhileInTheRow();
        acknowledgedWhileThere();
        acknowledgedWhenGone();
        shelvedWhileThere();
        shelvedAhead();
        shelvedAndGone();
        shelvedForgetsAcknowledging();
        shelvedAgain();
        shelvingEndsAtOnce();
        shelvingEndsAheadOfScans();
        twoShelvingsEndAtOneUnit();
        shelvingWhileStopped();
        alarmOfARungThatIsPassedOver();
        alarmStaysWithoutItsRung();
        resetClears();
        Check.end();
    }

    /** Alarm i comes with input i, for 0 to 3, and is looked at in each unit. */
    private static Rungmaster four() {
        Rungmaster x = new Rungmaster();
        for (int i = 0; i < 4; i++) {
            int number = x.rung(0, 'A', i, 0);
            x.contact(number, '1', i);
        }
        x.takeOver();
        x.setPeriod(0, 1);
        return x;
    }

    private static void tell(Rungmaster x, int alarm, boolean isThere) {
        x.setInput(alarm, isThere);
        x.pass(1);
    }

    private static String all(Rungmaster x) {
        StringBuilder text = new StringBuilder();
        for (int i = 0; i < 4; i++) {
            text.append(x.alarm(i));
        }
        Check.same("sound", x.isSound(), true);
        return text.append(' ').append(Look.row(x)).toString();
    }

    private static void comesAndGoes() {
        Rungmaster x = four();
        Check.same("none", all(x), "nnnn ");
        Check.same("none", x.alarms(), 0);
        Check.raises("none", IndexOutOfBoundsException.class, () -> x.alarmAt(0));
        x.setInput(1, true);
        Check.same("not yet", all(x), "nnnn ");
        x.pass(1);
        Check.same("there", all(x), "ntnn 1");
        Check.same("one", x.alarms(), 1);
        Check.raises("one", IndexOutOfBoundsException.class, () -> x.alarmAt(1));
        Check.raises("-1", IndexOutOfBoundsException.class, () -> x.alarmAt(-1));
        x.pass(5);
        Check.same("there", all(x), "ntnn 1");
        tell(x, 1, false);
        Check.same("in the row alone", all(x), "nrnn 1");
        Check.same("others", x.alarm(7), 'n');
    }

    private static void rowIsInOrder() {
        Rungmaster x = four();
        tell(x, 2, true);
        tell(x, 0, true);
        x.setInput(1, true);
        x.setInput(3, true);
        x.pass(1);
        Check.same("as they came, as rungs stand", all(x), "tttt 2013");
        tell(x, 0, false);
        Check.same("acknowledge", x.acknowledge(0), true);
        Check.same("out of the middle", all(x), "nttt 213");
        tell(x, 0, true);
        Check.same("at the end", all(x), "tttt 2130");
        Check.same("acknowledge", x.acknowledge(2), true);
        tell(x, 2, false);
        Check.same("the first one", all(x), "ttnt 130");
    }

    private static void comesAgainWhileInTheRow() {
        Rungmaster x = four();
        tell(x, 0, true);
        tell(x, 1, true);
        tell(x, 0, false);
        Check.same("gone", all(x), "rtnn 01");
        tell(x, 0, true);
        Check.same("in its place", all(x), "ttnn 01");
    }

    private static void acknowledgedWhileThere() {
        Rungmaster x = four();
        Check.same("not in the row", x.acknowledge(0), false);
        tell(x, 0, true);
        Check.same("acknowledge", x.acknowledge(0), true);
        Check.same("acknowledged", all(x), "annn 0");
        Check.same("again", x.acknowledge(0), true);
        x.pass(3);
        Check.same("acknowledged", all(x), "annn 0");
        tell(x, 0, false);
        Check.same("gone", all(x), "nnnn ");
        tell(x, 0, true);
        Check.same("a new one", all(x), "tnnn 0");
        tell(x, 0, false);
        Check.same("not acknowledged", all(x), "rnnn 0");
    }

    private static void acknowledgedWhenGone() {
        Rungmaster x = four();
        tell(x, 0, true);
        tell(x, 0, false);
        Check.same("acknowledge", x.acknowledge(0), true);
        Check.same("gone", all(x), "nnnn ");
        Check.same("not in the row", x.acknowledge(0), false);
        tell(x, 0, true);
        Check.same("not acknowledged", all(x), "tnnn 0");
    }

    private static void shelvedWhileThere() {
        Rungmaster x = four();
        tell(x, 0, true);
        tell(x, 1, true);
        Check.same("shelve", x.shelve(0, 3), 0);
        Check.same("out of the row", all(x), "stnn 1");
        Check.same("acknowledge", x.acknowledge(0), false);
        x.pass(2);
        Check.same("still", all(x), "stnn 1");
        x.pass(1);
        Check.same("at the end of the row", all(x), "ttnn 10");
    }

    private static void shelvedAhead() {
        Rungmaster x = four();
        Check.same("shelve", x.shelve(0, 4), 0);
        tell(x, 0, true);
        Check.same("not in the row", all(x), "snnn ");
        x.pass(2);
        Check.same("not in the row", all(x), "snnn ");
        x.pass(1);
        Check.same("over", all(x), "tnnn 0");
        x.shelve(1, 2);
        x.pass(2);
        Check.same("over, and not there", all(x), "tnnn 0");
    }

    private static void shelvedAndGone() {
        Rungmaster x = four();
        tell(x, 0, true);
        tell(x, 0, false);
        Check.same("in the row alone", all(x), "rnnn 0");
        x.shelve(0, 3);
        Check.same("out of the row", all(x), "snnn ");
        tell(x, 0, true);
        tell(x, 0, false);
        x.pass(1);
        Check.same("over, and not there", all(x), "nnnn ");
    }

    private static void shelvedForgetsAcknowledging() {
        Rungmaster x = four();
        tell(x, 0, true);
        x.acknowledge(0);
        x.shelve(0, 1);
        x.pass(1);
        Check.same("it left the row", all(x), "tnnn 0");
        tell(x, 0, false);
        Check.same("not acknowledged", all(x), "rnnn 0");
    }

    private static void shelvedAgain() {
        Rungmaster x = four();
        x.shelve(0, 999);
        x.pass(200);
        Check.same("left", x.shelve(0, 2), 799);
        Check.same("left", x.shelve(0, 5), 2);
        x.setInput(0, true);
        x.pass(4);
        Check.same("still", all(x), "snnn ");
        x.pass(1);
        Check.same("over", all(x), "tnnn 0");
        Check.same("left", x.shelve(0, 0), 0);
        Check.same("as it was", all(x), "tnnn 0");
    }

    private static void shelvingEndsAtOnce() {
        Rungmaster x = four();
        x.shelve(0, 50);
        tell(x, 0, true);
        tell(x, 1, true);
        Check.same("left", x.shelve(0, 0), 48);
        Check.same("into the row", all(x), "ttnn 10");
        x.shelve(2, 50);
        Check.same("left", x.shelve(2, 0), 50);
        Check.same("not there", all(x), "ttnn 10");
        x.acknowledge(1);
        Check.same("not shelved", x.shelve(1, 0), 0);
        Check.same("as it was", all(x), "tann 10");
        tell(x, 0, false);
        Check.same("not shelved", x.shelve(0, 0), 0);
        Check.same("as it was", all(x), "rann 10");
    }

    private static void shelvingEndsAheadOfScans() {
        Rungmaster x = four();
        x.shelve(0, 2);
        tell(x, 0, true);
        x.setInput(1, true);
        x.pass(1);
        Check.same("0 ahead of 1", all(x), "ttnn 01");
        x.shelve(2, 1);
        tell(x, 2, true);
        Check.same("over, then it comes", all(x), "tttn 012");
        x.shelve(0, 1);
        tell(x, 0, false);
        Check.same("over while there, then it goes", all(x), "rttn 120");
    }

    private static void twoShelvingsEndAtOneUnit() {
        Rungmaster x = four();
        tell(x, 3, true);
        tell(x, 1, true);
        x.shelve(3, 2);
        x.shelve(1, 2);
        x.pass(2);
        Check.same("both", all(x), "ntnt 13");
    }

    private static void shelvingWhileStopped() {
        Rungmaster x = four();
        tell(x, 0, true);
        x.shelve(0, 3);
        x.pass(1);
        x.fail();
        x.fail();
        Check.same("stopped", x.isStopped(), true);
        Check.same("shelved", all(x), "snnn ");
        x.pass(1);
        Check.same("shelved", all(x), "snnn ");
        x.pass(1);
        Check.same("over", all(x), "tnnn 0");
    }

    private static void alarmOfARungThatIsPassedOver() {
        Rungmaster x = new Rungmaster();
        int jump = x.rung(0, 'J', 0, 9);
        x.contact(jump, '1', 1);
        int number = x.rung(0, 'A', 7, 0);
        x.contact(number, '1', 0);
        x.takeOver();
        x.setPeriod(0, 1);
        tell(x, 0, true);
        Check.same("there", x.alarm(7), 't');
        x.setInput(1, true);
        tell(x, 0, false);
        Check.same("neither comes nor goes", x.alarm(7), 't');
        tell(x, 1, false);
        Check.same("goes", x.alarm(7), 'r');
    }

    private static void alarmStaysWithoutItsRung() {
        Rungmaster x = four();
        tell(x, 0, true);
        x.emptyDraft();
        x.takeOver();
        tell(x, 0, false);
        Check.same("there", all(x), "tnnn 0");
    }

    private static void resetClears() {
        Rungmaster x = four();
        tell(x, 0, true);
        tell(x, 1, true);
        x.acknowledge(1);
        x.shelve(2, 9);
        x.setInput(0, false);
        x.setInput(1, false);
        x.reset();
        Check.same("all as at first", all(x), "nnnn ");
        Check.same("not shelved", x.shelve(2, 0), 0);
        tell(x, 1, true);
        Check.same("not acknowledged", all(x), "ntnn 1");
    }
}
