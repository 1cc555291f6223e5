/** Asks a Rungmaster for all that it holds, hidden things too: each kind of question is put to an object of its own. */
final class Probe {
    static final int KINDS = 6;

    private Probe() {
    }

    static String ask(int kind, Rungmaster x) {
        switch (kind) {
            case 0:
                return goesOn(x);
            case 1:
                return settings(x);
            case 2:
                return draft(x);
            case 3:
                return takeOver(x) + goesOn(x);
            case 4:
                return failures(x);
            default:
                return x.reset() + Look.at(x) + goesOn(x);
        }
    }

    private static String goesOn(Rungmaster x) {
        StringBuilder text = new StringBuilder(Look.at(x));
        if (x.time() >= 99900) {
            return text.toString();
        }
        x.pass(1);
        text.append('\n').append(Look.at(x));
        for (int i = 0; i < 8; i++) {
            x.setInput(i, i % 3 != 0);
        }
        x.pass(30);
        return text.append('\n').append(Look.at(x)).toString();
    }

    private static String settings(Rungmaster x) {
        StringBuilder text = new StringBuilder();
        for (int task = 0; task < 2; task++) {
            text.append(x.setPeriod(task, 1)).append(' ').append(x.setWatch(task, 1)).append(' ');
        }
        text.append(x.setStart(-1)).append(' ').append(x.lose(1)).append(' ').append(x.setHold(0));
        for (int i = 0; i < 8; i++) {
            text.append(' ').append(x.setInput(i, true)).append(x.acknowledge(i)).append(x.shelve(i, 0));
        }
        for (int i = 0; i < 32; i++) {
            text.append(' ').append(x.force(i, -1));
        }
        return text.append(x.come()).toString();
    }

    /** What is added next tells how many there were. */
    private static String draft(Rungmaster x) {
        StringBuilder text = new StringBuilder();
        for (int i = 0; i < 40; i++) {
            int rung = i;
            text.append(answer(() -> x.contact(rung, '1', 0)));
        }
        for (int i = 0; i < 12; i++) {
            int step = i;
            text.append(answer(() -> x.action(step, 'n', 8, 0)));
        }
        text.append(answer(() -> x.transition(0, -1, 0, -1, 0, true))).append(answer(x::step));
        text.append(answer(() -> x.rung(0, 'k', 0, 0))).append(x.emptyDraft());
        return text.append(takeOver(x)).append(x.rung(0, 'k', 0, 0)).append(x.step()).toString();
    }

    private interface Question {
        int ask();
    }

    private static String answer(Question question) {
        try {
            return " " + question.ask();
        } catch (RuntimeException refused) {
            return " " + refused.getClass().getSimpleName();
        }
    }

    static String takeOver(Rungmaster x) {
        try {
            return "taken over " + x.takeOver();
        } catch (UnsupportedOperationException refused) {
            return "not taken over";
        }
    }

    private static String failures(Rungmaster x) {
        StringBuilder text = new StringBuilder();
        text.append(x.fail()).append(Look.at(x)).append(x.come());
        if (x.time() < 99900) {
            x.pass(1);
            text.append(Look.at(x));
        }
        return text.append(x.fail()).append(x.come()).append(Look.at(x)).toString();
    }
}
