/** Counts the answers that are not as due; each test ends with end(). */
final class Check {
    private static int wrong = 0;
    private static int looked = 0;

    private Check() {
    }

    static void same(String what, long got, long due) {
        looked++;
        if (got != due) {
            complain(what + " answered " + got + ", due is " + due);
        }
    }

    static void same(String what, double got, double due) {
        looked++;
        if (got != due) {
            complain(what + " answered " + got + ", due is " + due);
        }
    }

    static void same(String what, boolean got, boolean due) {
        looked++;
        if (got != due) {
            complain(what + " answered " + got + ", due is " + due);
        }
    }

    static void same(String what, String got, String due) {
        looked++;
        if (!got.equals(due)) {
            complain(what + " answered\n  " + got + ", due is\n  " + due);
        }
    }

    static void raises(String what, Class<?> due, Runnable call) {
        looked++;
        try {
            call.run();
        } catch (RuntimeException thrown) {
            if (thrown.getClass() != due) {
                complain(what + " throws " + thrown + ", due is " + due.getName());
            }
            return;
        }
        complain(what + " throws nothing, due is " + due.getName());
    }

    private static void complain(String text) {
        wrong++;
        StackTraceElement[] way = new Throwable().getStackTrace();
        StringBuilder lines = new StringBuilder();
        for (StackTraceElement place : way) {
            if (!place.getClassName().equals("Check")) {
                lines.append(' ').append(place.getFileName()).append(':').append(place.getLineNumber());
            }
        }
        System.out.println(text + " (" + lines.toString().trim() + ")");
    }

    static void end() {
        System.out.println(looked + " answers looked at, " + wrong + " not as due");
        if (wrong != 0) {
            System.exit(1);
        }
    }
}
