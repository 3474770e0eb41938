/** Counts the answers that are not due, prints each of them, and ends the program with 1 if there was one. */
final class Checks {
    private int made = 0;
    private int wrong = 0;

    void due(String what, Object got, Object want) {
        made++;
        if (!got.equals(want)) {
            wrong++;
            System.out.println(what + ": answered " + got + ", due is " + want);
        }
    }

    void refused(String what, Class<? extends RuntimeException> want, Runnable call) {
        String got = "nothing thrown";
        try {
            call.run();
        } catch (RuntimeException e) {
            got = nameOf(e);
        }
        due(what, got, want.getSimpleName());
    }

    /** The name of an exception, marked if PinHall did not throw it itself: the machine or the library did. */
    static String nameOf(Throwable e) {
        StackTraceElement[] trace = e.getStackTrace();
        boolean isThrown = trace.length > 0 && trace[0].getClassName().startsWith("PinHall");
        return e.getClass().getSimpleName() + (isThrown ? "" : " that PinHall does not throw itself");
    }

    void end() {
        System.out.println(made + " answers looked at, " + wrong + " not as due");
        if (wrong != 0 || made == 0) {
            System.exit(1);
        }
    }
}
