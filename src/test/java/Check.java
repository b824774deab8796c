import java.util.NoSuchElementException;

/** Compares answers with those that are due, prints what differs, and keeps count of it. */
final class Check {
    static final String STATE = IllegalStateException.class.getSimpleName();
    static final String ARGUMENT = IllegalArgumentException.class.getSimpleName();
    static final String ELEMENT = NoSuchElementException.class.getSimpleName();
    static final String NOTHING = "nothing";

    private final String test;
    private int compared = 0;
    private int wrong = 0;
    private int sentences = 0;
    private String sentence = "";

    Check(String test) {
        this.test = test;
    }

    /** The sentence of the document that the next answers are about. */
    void of(String quoted) {
        sentence = " \"" + quoted + "\"";
        sentences++;
    }

    void same(String what, long got, long due) {
        same(what, Long.toString(got), Long.toString(due));
    }

    void same(String what, String got, String due) {
        compared++;
        if (!got.equals(due)) {
            wrong++;
            System.out.println(
                    test + sentence + ": " + what + " answered " + got + ", due is " + due);
        }
    }

    void yes(String what, boolean got) {
        same(what, Boolean.toString(got), "true");
    }

    void no(String what, boolean got) {
        same(what, Boolean.toString(got), "false");
    }

    void throwing(String what, String due, Runnable call) {
        same(what, thrownBy(call), due);
    }

    void passes(String what, Runnable call) {
        throwing(what, NOTHING, call);
    }

    /** A call that throws and leaves everything as it was. */
    void refused(String what, String due, Run run, Runnable call) {
        keeps(what, run, () -> throwing(what, due, call));
    }

    void keeps(String what, Run run, Runnable calls) {
        String before = State.of(run);
        calls.run();
        same("the state behind " + what, State.of(run), before);
    }

    /** The exact class counts: a subclass of what is due would be another answer. */
    static String thrownBy(Runnable call) {
        try {
            call.run();
            return NOTHING;
        } catch (RuntimeException e) {
            return e.getClass().getSimpleName();
        }
    }

    void end() {
        String told = sentences == 0 ? "" : " of " + sentences + " sentences";
        System.out.println(test + ": " + compared + " answers" + told + ", " + wrong + " wrong");
        if (wrong > 0) {
            System.exit(1);
        }
    }
}
