/** Counts the answers that are not due, prints each of them, and ends the program with 1 if there was one. */
final class Checks {
    private int made = 0;
    private int wrong = 0;

    void due(String what, Object got, Object want) {
        made++;
        if (!got.equals(want)) {
            wrong++;
            System.out.println(what + ": answered " + got + ", due is " + want);
        }
    }

    /** Wants just this exception, none of its subclasses: the machine's own are subclasses of those that are due. */
    void refused(String what, Class<? extends RuntimeException> want, Runnable call) {
        String got = "nothing thrown";
        try {
            call.run();
        } catch (RuntimeException e) {
            got = e.getClass().getName();
        }
        due(what, got, want.getName());
    }

    void end() {
        System.out.println(made + " answers looked at, " + wrong + " not as due");
        if (wrong != 0 || made == 0) {
            System.exit(1);
        }
    }
}
