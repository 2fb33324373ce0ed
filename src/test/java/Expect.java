/** Counts and prints the answers that are not the ones due. */
final class Expect {
    private int asked = 0;
    private int wrong = 0;

    /** A call of the program, its answer as a number (a boolean counts 1 or 0). */
    interface Call {
        double answer();
    }

    static final Class<?> BOUNDS = IndexOutOfBoundsException.class;
    static final Class<?> ARGUMENT = IllegalArgumentException.class;
    static final Class<?> STATE = IllegalStateException.class;

    void answers(String what, double due, Call call) {
        compare(what, String.valueOf(due), outcome(call));
    }

    /** Answers whether the call was refused as is due. */
    boolean refuses(String what, Class<?> due, Call call) {
        return compare(what, due.getName(), outcome(call));
    }

    void same(String what, Call due, Call call) {
        compare(what, outcome(due), outcome(call));
    }

    void says(String what, String due, String got) {
        compare(what, due, got);
    }

    void holds(String what, boolean got) {
        compare(what, "true", String.valueOf(got));
    }

    void finish() {
        System.out.println(asked + " asked, " + wrong + " wrong");
        if (wrong != 0) {
            System.exit(1);
        }
    }

    // The class itself is named, not one above it: the document names which exception goes out.
    static String outcome(Call call) {
        try {
            return String.valueOf(call.answer());
        } catch (RuntimeException e) {
            return e.getClass().getName();
        }
    }

    private boolean compare(String what, String due, String got) {
        asked++;
        if (due.equals(got)) {
            return true;
        }
        wrong++;
        System.out.println(what + " answered " + got + ", due is " + due);
        return false;
    }
}
