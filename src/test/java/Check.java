/** Counts what a test finds wrong, and ends it with exit code 1 if there was anything. */
final class Check {
    interface Call {
        long answer();
    }

    private static final long MOST_MILLISECONDS = 600000;
    private static int checks = 0;
    private static int wrong = 0;

    // A call that never ends must fail the test, not hold it up.
    static {
        Thread watch = new Thread(Check::endWhenTooLong);
        watch.setDaemon(true);
        watch.start();
    }

    private Check() {
    }

    private static void endWhenTooLong() {
        try {
            Thread.sleep(MOST_MILLISECONDS);
        } catch (InterruptedException e) {
            return;
        }
        System.out.println("the test takes too long: perhaps a call does not end");
        Runtime.getRuntime().halt(1);
    }

    static void same(String what, long got, long due) {
        checks++;
        if (got != due) {
            fault(what + " answered " + got + ", due is " + due);
        }
    }

    static void same(String what, String got, String due) {
        checks++;
        if (!got.equals(due)) {
            fault(what + " answered " + got + ", due is " + due);
        }
    }

    static void holds(String what, boolean truth) {
        checks++;
        if (!truth) {
            fault(what + " does not hold");
        }
    }

    static void refuses(String what, Class<? extends RuntimeException> due, Call call) {
        same(what, outcome(call), "throws." + due.getSimpleName());
    }

    /** A call's answer, or the name of what it throws behind throws. */
    static String outcome(Call call) {
        try {
            return Long.toString(call.answer());
        } catch (RuntimeException e) {
            return "throws." + e.getClass().getSimpleName();
        }
    }

    static void finish(String test) {
        System.out.println(test + ": " + checks + " checks, " + wrong + " wrong");
        if (wrong != 0 || checks == 0) {
            System.exit(1);
        }
    }

    private static void fault(String text) {
        wrong++;
        if (wrong <= 50) {
            System.out.println(text);
        }
    }
}
