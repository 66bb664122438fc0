/** Counts what a test finds right and wrong, and tells what is wrong. */
final class Check {
    private int passed = 0;
    private int failed = 0;

    void is(String what, Object got, Object due) {
        if (due.equals(got)) {
            passed++;
        } else {
            failed++;
            System.out.println(what + ": answered " + got + ", due is " + due);
        }
    }

    /** Whether a call throws just this kind of exception. */
    void refused(String what, Class<? extends RuntimeException> kind, Runnable call) {
        is(what, outcomeOf(call), kind.getSimpleName());
    }

    private static String outcomeOf(Runnable call) {
        try {
            call.run();
            return "nothing thrown";
        } catch (RuntimeException thrown) {
            return thrown.getClass().getSimpleName();
        }
    }

    void end() {
        System.out.println(passed + " passed, " + failed + " failed");
        if (failed > 0) {
            System.exit(1);
        }
    }
}
