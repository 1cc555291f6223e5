/** Everything that can be asked of a Rungmaster, as one text. */
final class Look {
    private Look() {
    }

    static String at(Rungmaster x) {
        StringBuilder text = new StringBuilder();
        text.append("time ").append(x.time()).append(" bits ");
        for (int i = 0; i < 32; i++) {
            text.append(x.bit(i));
        }
        text.append(" given ");
        for (int i = 0; i < 8; i++) {
            text.append(x.given(i));
        }
        text.append(" changes");
        for (int i = 0; i < 8; i++) {
            text.append(' ').append(x.changes(i));
        }
        text.append(" numbers");
        for (int i = 0; i < 8; i++) {
            text.append(' ').append(x.number(i));
        }
        text.append(" timers");
        for (int i = 0; i < 8; i++) {
            text.append(' ').append(x.timer(i));
        }
        text.append(" steps");
        for (int i = 0; i < 12; i++) {
            if (x.isActive(i)) {
                text.append(' ').append(i).append('@').append(x.stepTime(i));
            }
        }
        text.append(" alarms ");
        for (int i = 0; i < 8; i++) {
            text.append(x.alarm(i));
        }
        text.append(" row");
        for (int i = 0; i < x.alarms(); i++) {
            text.append(' ').append(x.alarmAt(i));
        }
        text.append(" scans ").append(x.scans(0)).append(' ').append(x.scans(1));
        text.append(" missed ").append(x.missed(0)).append(' ').append(x.missed(1));
        text.append(x.isStopped() ? " stopped" : " runs").append(x.isInStep() ? " in step" : " out of step");
        text.append(" rungs ").append(x.rungs()).append(" forced ").append(x.forced());
        text.append(" done ").append(x.done());
        if (x.scans(0) + x.scans(1) > 0) {
            text.append(" mean ").append(x.meanRungs());
        }
        try {
            float share = x.activeShare();
            text.append(" share ").append(share);
        } catch (ArithmeticException none) {
            text.append(" no steps");
        }
        return text.append(x.isSound() ? " sound" : " unsound").toString();
    }

    static String row(Rungmaster x) {
        StringBuilder text = new StringBuilder();
        for (int i = 0; i < x.alarms(); i++) {
            text.append(x.alarmAt(i));
        }
        return text.toString();
    }

    static String given(Rungmaster x) {
        StringBuilder text = new StringBuilder();
        for (int i = 0; i < 8; i++) {
            text.append(x.given(i));
        }
        return text.toString();
    }
}
