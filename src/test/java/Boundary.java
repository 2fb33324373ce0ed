import java.util.function.Consumer;
import java.util.function.ToDoubleFunction;

/**
 * Asks for boundary cases under the sentence of the document that names them. Each question goes
 * to a school of its own; a call that is refused must leave the school as one that never heard it.
 */
final class Boundary {
    static final Class<?> BOUNDS = Expect.BOUNDS;
    static final Class<?> ARGUMENT = Expect.ARGUMENT;
    static final Class<?> STATE = Expect.STATE;

    private final Expect expect = new Expect();
    private final String where;
    private String sentence = "";

    Boundary(String where) {
        this.where = where;
    }

    /** The sentence that the questions behind it are about, word by word. */
    void sentence(String place, String text) {
        sentence = where + place + ", \"" + text + "\": ";
    }

    void answers(String what, double due, Consumer<HarmoniumDesk> setup, ToDoubleFunction<HarmoniumDesk> call) {
        expect.answers(sentence + what, due, () -> call.applyAsDouble(Schools.made(setup)));
    }

    /** The call must throw just this exception, and change nothing. */
    void refuses(String what, Class<?> due, Consumer<HarmoniumDesk> setup, ToDoubleFunction<HarmoniumDesk> call) {
        HarmoniumDesk school = Schools.made(setup);
        if (expect.refuses(sentence + what, due, () -> call.applyAsDouble(school))) {
            changesNothing(what, setup, call);
        }
    }

    void changesNothing(String what, Consumer<HarmoniumDesk> setup, ToDoubleFunction<HarmoniumDesk> call) {
        String due = Everything.told(setup);
        String got = Everything.told(setup.andThen(school -> hear(school, call)));
        expect.holds(sentence + what + " must change nothing", due.equals(got));
    }

    void finish() {
        expect.finish();
    }

    /** Numbers just outside of a range and far outside, also such as lie in it when they are cut to 8 or 16 bits. */
    static int[] outside(int low, int high) {
        return new int[] {
            low - 1, high + 1, -high - 2, Integer.MIN_VALUE, Integer.MAX_VALUE,
            low + 256, high - 65536, low + (1 << 30),
        };
    }

    private static void hear(HarmoniumDesk school, ToDoubleFunction<HarmoniumDesk> call) {
        try {
            call.applyAsDouble(school);
        } catch (RuntimeException e) {
            // What it throws is asked elsewhere; here only what it leaves behind counts.
        }
    }
}
