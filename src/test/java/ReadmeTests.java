/** The examples of README.md, as they stand there. */
public final class ReadmeTests {
    public static void main(String[] args) {
        examples();
        Check.end();
    }

    private static void examples() {
        Rungmaster plant = new Rungmaster();
        int rung = plant.rung(0, '=', 8, 0);
        plant.contact(rung, '1', 0);
        plant.takeOver();
        plant.setInput(0, true);
        plant.pass(10);
        int lamp = plant.given(0);
        Check.same("lamp", lamp, 1);

        int idle = plant.step();
        int busy = plant.step();
        Check.same("steps", idle * 10 + busy, 1);
        plant.action(busy, 'n', 9, 0);
        plant.transition(idle, -1, busy, -1, 1, true);
        Check.same("the draft still has the rung", plant.takeOver(), 1);
        Check.same("not seen yet", plant.isActive(busy), false);
        plant.setInput(1, true);
        plant.pass(10);
        boolean isBusy = plant.isActive(busy);
        Check.same("isBusy", isBusy, true);
        Check.same("output 1", plant.given(1), 1);

        boolean goesOn = plant.fail();
        Check.same("goesOn", goesOn, true);
        Check.same("out of step now", plant.isInStep(), false);
        Check.same("another standby", plant.come(), true);
        plant.pass(1);
        boolean inStep = plant.isInStep();
        Check.same("inStep", inStep, true);
        Check.same("scans", plant.scans(0), 3);
    }
}
