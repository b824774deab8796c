import java.util.NoSuchElementException;

/** Compares answers with those that are due, prints what differs, and keeps count of it. */
final class Check {
    static final String STATE = IllegalStateException.class.getSimpleName();
    static final String ARGUMENT = IllegalArgumentException.class.getSimpleName();
    static final String ELEMENT = NoSuchElementException.class.getSimpleName();
    static final String NOTHING = "nothing";

    private final String test;
    private int compared = 0;
    private int wrong = 0;

    Check(String test) {
        this.test = test;
    }

    void same(String what, long got, long due) {
        same(what, Long.toString(got), Long.toString(due));
    }

    void same(String what, String got, String due) {
        compared++;
        if (!got.equals(due)) {
            wrong++;
            System.out.println(test + ": " + what + " answered " + got + ", due is " + due);
        }
    }

    void yes(String what, boolean got) {
        same(what, Boolean.toString(got), "true");
    }

    void no(String what, boolean got) {
        same(what, Boolean.toString(got), "false");
    }

    void throwing(String what, String due, Runnable call) {
        same(what, thrownBy(call), due);
    }

    void passes(String what, Runnable call) {
        throwing(what, NOTHING, call);
    }

    /** The exact class counts: a subclass of what is due would be another answer. */
    static String thrownBy(Runnable call) {
        try {
            call.run();
            return NOTHING;
        } catch (RuntimeException e) {
            return e.getClass().getSimpleName();
        }
    }

    void end() {
        System.out.println(test + ": " + compared + " answers compared, " + wrong + " wrong");
        if (wrong > 0) {
            System.exit(1);
        }
    }
}
