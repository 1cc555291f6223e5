/** Promises 2, 3, 16, 22, 24 and 25: what the kinds of rungs and contacts do in scans. */
public final class RungTests {
    public static void main(String[] args) {
        contactsOneAndZero();
        contactUp();
        contactDown();
        contactsOfOneRungAreAllLookedAt();
        contactPassedOverKeepsWhatItSaw();
        coil();
        setAndClear();
        timerT();
        timerR();
        counter();
        counterAndTimerShareOne();
        timeIsCutToSmallestB();
        timerBitIsWrittenEachTime();
        zero();
        constantsAndSums();
        sumsGoRound();
        less();
        jump();
        jumpOfOneTaskLeavesTheOther();
        forcedBitsCount();
        timerTimeOfTaskOne();
        inOrder();
        Check.end();
    }

    private static Rungmaster one(char kind, int a, int b, char contact, int bit) {
        Rungmaster x = new Rungmaster();
        add(x, kind, a, b, contact, bit);
        x.takeOver();
        return x;
    }

    private static int add(Rungmaster x, char kind, int a, int b, char contact, int bit) {
        int number = x.rung(0, kind, a, b);
        x.contact(number, contact, bit);
        return number;
    }

    private static void contactsOneAndZero() {
        Rungmaster x = new Rungmaster();
        x.rung(0, '=', 8, 0);
        add(x, '=', 9, 0, '1', 0);
        add(x, '=', 10, 0, '0', 0);
        int both = add(x, '=', 11, 0, '1', 0);
        x.contact(both, '0', 1);
        x.takeOver();
        x.pass(10);
        Check.same("both 0", Look.given(x), "10100000");
        x.setInput(0, true);
        x.pass(10);
        Check.same("0 is 1", Look.given(x), "11010000");
        x.setInput(1, true);
        x.pass(10);
        Check.same("both 1", Look.given(x), "11000000");
        x.setInput(0, false);
        x.pass(10);
        Check.same("1 is 1", Look.given(x), "10100000");
    }

    private static void contactUp() {
        Rungmaster x = one('=', 8, 0, 'u', 0);
        x.setInput(0, true);
        x.pass(10);
        Check.same("at first it was 0", x.bit(8), 1);
        x.pass(10);
        Check.same("stays 1", x.bit(8), 0);
        x.setInput(0, false);
        x.pass(10);
        Check.same("0", x.bit(8), 0);
        x.setInput(0, true);
        x.pass(10);
        Check.same("1 again", x.bit(8), 1);
    }

    private static void contactDown() {
        Rungmaster x = one('=', 8, 0, 'd', 0);
        x.pass(10);
        Check.same("0 at first", x.bit(8), 0);
        x.setInput(0, true);
        x.pass(10);
        Check.same("1", x.bit(8), 0);
        x.setInput(0, false);
        x.pass(10);
        Check.same("0 now", x.bit(8), 1);
        x.pass(10);
        Check.same("0 still", x.bit(8), 0);
    }

    private static void contactsOfOneRungAreAllLookedAt() {
        Rungmaster x = new Rungmaster();
        int number = add(x, '+', 1, 2, '1', 1);
        x.contact(number, 'u', 0);
        x.contact(number, '1', 2);
        add(x, 'k', 2, 1, '0', 9);
        x.takeOver();
        x.pass(10);
        x.setInput(0, true);
        x.pass(10);
        x.setInput(1, true);
        x.setInput(2, true);
        x.pass(10);
        Check.same("the edge was seen while the first did not hold", x.number(1), 0);
        x.setInput(0, false);
        x.pass(10);
        x.setInput(0, true);
        x.pass(10);
        Check.same("the next edge", x.number(1), 1);
        x.setInput(0, false);
        x.pass(10);
        x.setInput(2, false);
        x.setInput(0, true);
        x.pass(10);
        x.setInput(2, true);
        x.pass(10);
        Check.same("the edge was seen while the last did not hold", x.number(1), 1);
    }

    private static void contactPassedOverKeepsWhatItSaw() {
        Rungmaster x = new Rungmaster();
        add(x, 'J', 0, 2, '1', 1);
        add(x, '+', 1, 2, 'u', 0);
        x.rung(0, 'k', 2, 1);
        x.takeOver();
        x.pass(10);
        x.setInput(0, true);
        x.setInput(1, true);
        x.pass(10);
        Check.same("passed over", x.number(1), 0);
        x.setInput(1, false);
        x.pass(10);
        Check.same("it was 0 when looked at last", x.number(1), 1);
    }

    private static void coil() {
        Rungmaster x = one('=', 31, 0, '1', 0);
        x.setInput(0, true);
        x.pass(10);
        Check.same("1", x.bit(31), 1);
        x.setInput(0, false);
        x.pass(10);
        Check.same("0", x.bit(31), 0);
    }

    private static void setAndClear() {
        Rungmaster x = new Rungmaster();
        add(x, 's', 16, 0, '1', 0);
        add(x, 'r', 16, 0, '1', 1);
        x.takeOver();
        x.setInput(0, true);
        x.pass(10);
        Check.same("set", x.bit(16), 1);
        x.setInput(0, false);
        x.pass(10);
        Check.same("stays", x.bit(16), 1);
        x.setInput(1, true);
        x.pass(10);
        Check.same("cleared", x.bit(16), 0);
        x.setInput(1, false);
        x.pass(10);
        Check.same("stays", x.bit(16), 0);
    }

    private static void timerT() {
        Rungmaster x = one('T', 3, 25, '1', 0);
        x.pass(10);
        Check.same("does not hold", x.timer(3), 0);
        x.setInput(0, true);
        x.pass(10);
        Check.same("10", x.timer(3), 10);
        x.setPeriod(0, 7);
        x.pass(10);
        Check.same("scans at 21 and 28", x.timer(3), 18);
        Check.same("bit", x.bit(27), 0);
        x.pass(5);
        Check.same("b is reached", x.timer(3), 25);
        Check.same("bit", x.bit(27), 1);
        x.pass(7);
        Check.same("not beyond b", x.timer(3), 25);
        x.setInput(0, false);
        x.pass(7);
        Check.same("0 at once", x.timer(3), 0);
        Check.same("bit", x.bit(27), 0);
    }

    private static void timerR() {
        Rungmaster x = one('R', 7, 25, '1', 0);
        x.setInput(0, true);
        x.pass(20);
        x.setInput(0, false);
        x.pass(20);
        Check.same("stays", x.timer(7), 20);
        Check.same("bit", x.bit(31), 0);
        x.setInput(0, true);
        x.pass(10);
        Check.same("up to b", x.timer(7), 25);
        Check.same("bit", x.bit(31), 1);
        x.setInput(0, false);
        x.pass(10);
        Check.same("bit stays", x.bit(31), 1);
    }

    private static void counter() {
        Rungmaster x = one('C', 0, 2, '1', 0);
        x.pass(10);
        Check.same("0", x.timer(0), 0);
        x.setInput(0, true);
        x.pass(10);
        Check.same("1", x.timer(0), 1);
        x.pass(10);
        Check.same("holds still", x.timer(0), 1);
        Check.same("bit", x.bit(24), 0);
        x.setInput(0, false);
        x.pass(10);
        Check.same("stays", x.timer(0), 1);
        x.setInput(0, true);
        x.pass(10);
        Check.same("2", x.timer(0), 2);
        Check.same("bit", x.bit(24), 1);
        x.setInput(0, false);
        x.pass(10);
        x.setInput(0, true);
        x.pass(10);
        Check.same("up to b", x.timer(0), 2);
        Rungmaster y = new Rungmaster();
        y.rung(0, 'C', 1, 5);
        y.takeOver();
        y.pass(10);
        Check.same("at first it did not hold", y.timer(1), 1);
        y.pass(30);
        Check.same("it held ever since", y.timer(1), 1);
    }

    private static void counterAndTimerShareOne() {
        Rungmaster x = new Rungmaster();
        add(x, 'C', 0, 999, 'u', 0);
        add(x, 'R', 0, 100, '1', 1);
        x.takeOver();
        x.setInput(0, true);
        x.setInput(1, true);
        x.pass(10);
        Check.same("1 and 10", x.timer(0), 11);
        Check.same("the last one writes the bit", x.bit(24), 0);
    }

    private static void timeIsCutToSmallestB() {
        Rungmaster x = new Rungmaster();
        x.rung(0, 'R', 0, 100);
        add(x, 'C', 0, 5, '1', 0);
        add(x, '=', 8, 0, '1', 24);
        add(x, 'R', 0, 3, '1', 0);
        x.takeOver();
        x.pass(10);
        Check.same("at most b, also if it does not hold", x.timer(0), 3);
        Check.same("bit of the rung with 5", x.bit(8), 1);
        Check.same("bit of the rung with 3", x.bit(24), 1);
    }

    private static void timerBitIsWrittenEachTime() {
        Rungmaster x = new Rungmaster();
        x.rung(0, 's', 26, 0);
        add(x, 'R', 2, 9, '1', 0);
        x.takeOver();
        x.pass(10);
        Check.same("0, for the time is less than b", x.bit(26), 0);
    }

    private static void zero() {
        Rungmaster x = new Rungmaster();
        add(x, 'R', 1, 10, '0', 0);
        add(x, 'Z', 1, 5, '1', 0);
        x.takeOver();
        x.pass(10);
        Check.same("timer", x.timer(1), 10);
        Check.same("bit", x.bit(25), 1);
        x.setInput(0, true);
        x.pass(10);
        Check.same("timer", x.timer(1), 0);
        Check.same("bit", x.bit(25), 0);
        Check.same("no number", x.number(1), 0);
    }

    private static void constantsAndSums() {
        Rungmaster x = new Rungmaster();
        add(x, 'k', 1, -999, 'u', 0);
        add(x, 'k', 2, 999, 'u', 0);
        add(x, '+', 3, 1, '1', 1);
        x.takeOver();
        x.pass(10);
        Check.same("k does not hold", x.number(1), 0);
        x.setInput(0, true);
        x.pass(10);
        Check.same("k", x.number(1), -999);
        Check.same("k", x.number(2), 999);
        Check.same("+ does not hold", x.number(3), 0);
        x.setInput(1, true);
        x.pass(20);
        Check.same("+ twice", x.number(3), -1998);
        Check.same("b is as it was", x.number(1), -999);
    }

    private static void sumsGoRound() {
        Rungmaster x = new Rungmaster();
        add(x, 'k', 0, 3, 'u', 0);
        for (int i = 0; i < 39; i++) {
            x.rung(0, '+', 0, 0);
        }
        x.takeOver();
        x.setInput(0, true);
        x.pass(10);
        Check.same("3 doubled 39 times", x.number(0), (int) (3L << 39));
        Rungmaster y = new Rungmaster();
        add(y, 'k', 0, 3, 'u', 0);
        for (int i = 0; i < 30; i++) {
            add(y, '+', 0, 0, 'u', 0);
        }
        y.takeOver();
        y.setInput(0, true);
        y.pass(10);
        Check.same("3 doubled 30 times", y.number(0), (int) (3L << 30));
    }

    private static void less() {
        Rungmaster x = new Rungmaster();
        x.rung(0, 'k', 0, 5);
        x.rung(0, 'k', 1, 4);
        x.rung(0, 'k', 2, 5);
        x.rung(0, 'k', 3, 6);
        x.rung(0, 'k', 4, -999);
        add(x, '<', 8, 1, '0', 0);
        add(x, '<', 9, 2, '0', 0);
        add(x, '<', 10, 3, '0', 0);
        add(x, '<', 11, 4, '0', 0);
        add(x, '<', 12, 0, '0', 0);
        x.takeOver();
        x.pass(10);
        Check.same("less than 5", Look.given(x), "10010000");
        x.setInput(0, true);
        x.pass(10);
        Check.same("does not hold", Look.given(x), "00000000");
    }

    private static void jump() {
        int[] aims = {0, 1, 2, 3, 4, 5, 6, 39};
        String[] given = {"11111", "11111", "11111", "10111", "10011", "10001", "10000", "10000"};
        for (int i = 0; i < aims.length; i++) {
            Rungmaster x = new Rungmaster();
            x.rung(0, 's', 8, 0);
            add(x, 'J', -5, aims[i], '0', 0);
            for (int bit = 9; bit <= 12; bit++) {
                x.rung(0, 's', bit, 0);
            }
            x.takeOver();
            x.pass(10);
            Check.same("jump to " + aims[i], Look.given(x), given[i] + "000");
            int ones = given[i].replace("0", "").length();
            Check.same("done", x.done(), ones + 1);
            x.setInput(0, true);
            x.pass(10);
            Check.same("no jump", Look.given(x), "11111000");
        }
    }

    private static void jumpOfOneTaskLeavesTheOther() {
        Rungmaster x = new Rungmaster();
        x.rung(1, 'J', 0, 3);
        x.rung(0, 's', 8, 0);
        x.rung(1, 's', 9, 0);
        x.rung(0, 's', 10, 0);
        x.rung(1, 's', 11, 0);
        x.takeOver();
        x.setPeriod(1, 10);
        x.pass(10);
        Check.same("given", Look.given(x), "10110000");
        Check.same("done", x.done(), 4);
    }

    private static void forcedBitsCount() {
        Rungmaster x = new Rungmaster();
        add(x, '=', 8, 0, '1', 0);
        add(x, '=', 9, 0, '1', 8);
        x.takeOver();
        x.force(0, 1);
        x.force(8, 0);
        x.pass(10);
        Check.same("8 is read as 0", x.bit(9), 0);
        Check.same("8 is given as 0", x.given(0), 0);
        x.force(8, -1);
        Check.same("what was written counts", x.bit(8), 1);
        Check.same("given at the end of a scan alone", x.given(0), 0);
        x.force(0, -1);
        Check.same("the input was taken as 0", x.bit(0), 0);
        x.pass(10);
        Check.same("as the plant has it", Look.given(x), "00000000");
    }

    private static void timerTimeOfTaskOne() {
        Rungmaster x = new Rungmaster();
        x.rung(1, 'R', 0, 999);
        x.rung(0, 'R', 1, 999);
        x.takeOver();
        x.setPeriod(1, 4);
        x.pass(22);
        Check.same("task 1 at 20", x.timer(0), 20);
        Check.same("task 0 at 20", x.timer(1), 20);
        x.setPeriod(1, 0);
        x.pass(20);
        x.setPeriod(1, 43);
        x.pass(1);
        Check.same("23 since the last scan", x.timer(0), 43);
    }

    private static void inOrder() {
        Rungmaster x = new Rungmaster();
        add(x, '=', 8, 0, '1', 9);
        add(x, '=', 9, 0, '1', 0);
        add(x, '=', 10, 0, '1', 9);
        x.takeOver();
        x.setInput(0, true);
        x.pass(10);
        Check.same("a rung sees what those ahead wrote", Look.given(x), "01100000");
        x.pass(10);
        Check.same("and the next scan", Look.given(x), "11100000");
    }
}
