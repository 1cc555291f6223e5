import java.util.NoSuchElementException;

/** Long runs of calls by fixed seeds, compared with PlainModel; all calls of the face, right and wrong ones. */
public final class RandomRunTests {
    private static final int RUNS = 1500;
    private static final int CALLS = 500;
    private static final String RUNG_KINDS = "=srTRCZk+<JA";

    private long seed;
    private Rungmaster x;
    private PlainModel m;

    public static void main(String[] args) {
        for (int run = 1; run <= RUNS; run++) {
            new RandomRunTests().run(run);
        }
        Check.end();
    }

    private int any(int least, int greatest) {
        seed = seed * 6364136223846793005L + 1442695040888963407L;
        return least + (int) ((seed >>> 33) % (greatest - least + 1));
    }

    private char any(String kinds) {
        return kinds.charAt(any(0, kinds.length() - 1));
    }

    private void run(int run) {
        seed = run * 977L;
        any(0, 1);
        x = new Rungmaster();
        m = new PlainModel();
        int most = any(1, 10) * 4;
        tellCode(most);
        takeOver(run);
        for (int i = 0; i < CALLS; i++) {
            if (any(1, 60) == 1) {
                tellCode(most);
            }
            oneCall(run);
            String due = m.look();
            String got = Look.at(x);
            if (!got.equals(due)) {
                Check.same("run " + run + ", call " + i, got, due);
                return;
            }
        }
        Check.same("run " + run, Look.at(x), m.look());
    }

    private void tellCode(int most) {
        if (any(1, 3) > 1) {
            Check.same("emptyDraft", x.emptyDraft(), m.draft.rungs.size());
            m.draft = new PlainModel.Code();
        }
        for (int i = any(0, most); i > 0 && m.draft.rungs.size() < 40; i--) {
            tellRung();
        }
        for (int i = any(0, 5); i > 0 && m.draft.steps.size() < 12; i--) {
            tellStep();
        }
        if (!m.draft.steps.isEmpty()) {
            for (int i = any(0, 8); i > 0 && m.draft.transitions.size() < 16; i--) {
                tellTransition();
            }
        }
    }

    private int anyBit() {
        int[] some = {0, 1, 2, 4, 5, 8, 9, 10, 16, 17, 24, 25};
        return any(0, 3) == 0 ? any(0, 31) : some[any(0, some.length - 1)];
    }

    private int anyWritable() {
        return Math.max(8, anyBit());
    }

    private void tellRung() {
        PlainModel.Rung rung = new PlainModel.Rung();
        rung.task = any(0, 2) / 2;
        rung.kind = any(RUNG_KINDS);
        rung.a = "=sr<".indexOf(rung.kind) >= 0 ? anyWritable() : any(0, any(1, 7));
        rung.b = any(0, 7);
        if ("TRC".indexOf(rung.kind) >= 0) {
            rung.b = any(1, any(1, 2) == 1 ? 5 : 60);
        } else if (rung.kind == 'k') {
            rung.b = any(-999, 999);
        } else if (rung.kind == 'J') {
            rung.b = any(0, 39);
        }
        Check.same("rung", x.rung(rung.task, rung.kind, rung.a, rung.b), m.draft.rungs.size());
        m.draft.rungs.add(rung);
        for (int i = any(-1, 3); i > 0; i--) {
            PlainModel.Contact contact = new PlainModel.Contact();
            contact.kind = any("10ud");
            contact.bit = anyBit();
            rung.contacts.add(contact);
            int count = x.contact(m.draft.rungs.size() - 1, contact.kind, contact.bit);
            Check.same("contact", count, rung.contacts.size());
        }
    }

    private void tellStep() {
        java.util.List<PlainModel.Action> actions = new java.util.ArrayList<>();
        Check.same("step", x.step(), m.draft.steps.size());
        m.draft.steps.add(actions);
        for (int i = any(0, 3); i > 0; i--) {
            PlainModel.Action action = new PlainModel.Action();
            action.kind = any("nsrdl");
            action.bit = anyWritable();
            action.time = any(1, 40);
            actions.add(action);
            int count = x.action(m.draft.steps.size() - 1, action.kind, action.bit, action.time);
            Check.same("action", count, actions.size());
        }
    }

    private void tellTransition() {
        PlainModel.Transition t = new PlainModel.Transition();
        int last = m.draft.steps.size() - 1;
        int first = any(0, last);
        int second = any(-1, last);
        int third = any(0, last);
        int fourth = any(-1, last);
        second = second == first || any(0, 1) == 0 ? -1 : second;
        fourth = fourth == third || any(0, 1) == 0 ? -1 : fourth;
        t.ahead.add(first);
        t.behind.add(third);
        if (second >= 0) {
            t.ahead.add(second);
        }
        if (fourth >= 0) {
            t.behind.add(fourth);
        }
        t.bit = anyBit();
        t.value = any(0, 1);
        m.draft.transitions.add(t);
        int count = x.transition(first, second, third, fourth, t.bit, t.value == 1);
        Check.same("transition", count, m.draft.transitions.size());
    }

    private void takeOver(int run) {
        int due = m.takeOver();
        int got;
        try {
            got = x.takeOver();
        } catch (UnsupportedOperationException refused) {
            got = -1;
        }
        Check.same("takeOver in run " + run, got, due);
    }

    private void oneCall(int run) {
        int which = any(0, 43);
        if (which < 14) {
            int units = any(0, 9) == 0 ? any(1, 60) : any(1, 12);
            m.pass(units);
            Check.same("pass", x.pass(units), m.time);
        } else if (which < 22) {
            int input = any(0, 7);
            int value = any(0, 1);
            Check.same("setInput", x.setInput(input, value == 1), m.plant[input] == 1);
            m.plant[input] = value;
        } else if (which < 25) {
            force();
        } else if (which < 29) {
            settings();
        } else if (which < 31) {
            int alarm = any(0, 3);
            Check.same("acknowledge", x.acknowledge(alarm), m.acknowledge(alarm));
        } else if (which < 33) {
            int alarm = any(0, 3);
            int units = any(0, 2) == 0 ? 0 : any(1, 30);
            Check.same("shelve", x.shelve(alarm, units), m.shelve(alarm, units));
        } else if (which < 36) {
            Check.same("come", x.come(), m.come());
        } else if (which == 36) {
            Check.same("fail", x.fail(), m.fail());
        } else if (which == 37 && (m.stopped || any(0, 4) == 0)) {
            m.reset();
            Check.same("reset", x.reset(), m.time);
        } else if (which == 38) {
            takeOver(run);
        } else {
            wrongCall();
        }
    }

    private void force() {
        int bit = any(0, 2) == 0 || m.forced.isEmpty() ? anyBit() : m.forced.firstKey();
        int value = any(-1, 1);
        Check.same("force", x.force(bit, value), m.forced.getOrDefault(bit, -1));
        if (value < 0) {
            m.forced.remove(bit);
        } else {
            m.forced.put(bit, value);
        }
    }

    private void settings() {
        int task = any(0, 1);
        switch (any(0, 4)) {
            case 0:
                int period = any(0, 3) == 0 ? 0 : any(1, 15);
                Check.same("setPeriod", x.setPeriod(task, period), m.period[task]);
                m.period[task] = period;
                break;
            case 1:
                int start = any(0, 4) == 0 ? -1 : anyBit();
                Check.same("setStart", x.setStart(start), m.start);
                m.start = start;
                m.startWas = 0;
                break;
            case 2:
                int watch = any(0, 2) == 0 ? any(1, 12) : 40;
                Check.same("setWatch", x.setWatch(task, watch), m.watch[task]);
                m.watch[task] = watch;
                break;
            case 3:
                int lost = any(1, 20);
                Check.same("lose", x.lose(lost), m.toLose);
                m.toLose = lost;
                break;
            default:
                int hold = any(0, 9);
                Check.same("setHold", x.setHold(hold), m.hold);
                m.hold = hold;
                break;
        }
    }

    /** A call with any arguments that throws must leave all as it is; one that does not throw is no wrong call. */
    private void wrongCall() {
        int wrong = any(0, 1) == 0 ? any(-9, -2) : any(1000, 2000000000);
        try {
            callWith(any(0, 16), wrong);
        } catch (IllegalArgumentException | NoSuchElementException refused) {
            return;
        }
        Check.same("a wrong call throws", 0, 1);
    }

    private void callWith(int which, int wrong) {
        switch (which) {
            case 0: x.rung(wrong, '=', 8, 0); break;
            case 1: x.rung(0, any("=sr<TRCZk+A"), wrong, 1); break;
            case 2: x.rung(0, any("TRCk+<J"), 8, wrong); break;
            case 3: x.contact(wrong, '1', 0); break;
            case 4: x.contact(0, '1', wrong); break;
            case 5: x.action(wrong, 'n', 8, 0); break;
            case 6: x.action(0, 'n', wrong, 0); break;
            case 7: x.action(0, any("dl"), 8, wrong); break;
            case 8: x.transition(0, wrong, 0, -1, 0, true); break;
            case 9: x.setInput(wrong, true); break;
            case 10: x.force(wrong, 1); break;
            case 11: x.setPeriod(0, wrong); break;
            case 12: x.setWatch(wrong, 1); break;
            case 13: x.pass(wrong); break;
            case 14: x.shelve(0, wrong); break;
            case 15: x.lose(wrong); break;
            default: x.setHold(wrong); break;
        }
    }
}
