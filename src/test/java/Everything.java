import java.util.function.Consumer;

/**
 * All that the calls tell of a school, as a text. Asking changes the school in part, and a school
 * answers 512 calls alone; so each part is asked of a new one that was set up in the same way.
 */
final class Everything {
    private interface Part {
        void ask(Everything told, HarmoniumDesk x);
    }

    private static final Part[] PARTS = {
        (told, x) -> told.notes(x, 0, 15),
        (told, x) -> told.notes(x, 15, 30),
        Everything::ancestors,
        Everything::settings,
        Everything::marks,
        Everything::changeability,
        Everything::copies,
        Everything::nextNumbers,
    };

    private final StringBuilder text = new StringBuilder();

    static String told(Consumer<HarmoniumDesk> setup) {
        Everything told = new Everything();
        for (Part part : PARTS) {
            part.ask(told, Schools.made(setup));
        }
        return told.text.toString();
    }

    private boolean tell(Expect.Call call) {
        String outcome = Expect.outcome(call);
        text.append(outcome).append(' ');
        return !outcome.endsWith("Exception");
    }

    private void notes(HarmoniumDesk x, int first, int end) {
        for (int number = first; number < end; number++) {
            int version = number;
            boolean answered = true;
            for (int place = 0; place < 24 && answered; place++) {
                int bar = place / 2;
                int voice = place % 2;
                answered = tell(() -> x.note(version, voice, bar));
            }
        }
    }

    private void ancestors(HarmoniumDesk x) {
        for (int pair = 0; pair < 100; pair++) {
            int one = pair / 10;
            int other = pair % 10;
            tell(() -> x.base(one, other));
            tell(() -> x.conflicts(one, other));
        }
        for (int number = 10; number < 30; number++) {
            int version = number;
            tell(() -> x.base(version, version / 2));
        }
    }

    private void settings(HarmoniumDesk x) {
        for (int number = 0; number < 6; number++) {
            int rule = number;
            tell(() -> x.setWeight(rule, 1));
        }
        tell(() -> x.setPass(1));
    }

    /** Which versions passed when they were handed in shows when none with a fault passes. */
    private void marks(HarmoniumDesk x) {
        for (int number = 0; number < 30; number++) {
            int version = number;
            tell(() -> x.mark(version));
        }
        tell(x::fallen);
        x.setPass(100);
        for (int rule = 0; rule < 6; rule++) {
            x.setWeight(rule, 50);
        }
        tell(x::fallen);
    }

    private void changeability(HarmoniumDesk x) {
        for (int number = 0; number < 30; number++) {
            int version = number;
            tell(() -> x.setNote(version, 1, 0, 39));
        }
    }

    private void copies(HarmoniumDesk x) {
        for (int number = 0; number < 20; number++) {
            int copy = number;
            tell(() -> x.slips(copy));
            for (int other = 0; other < 10; other++) {
                int version = other;
                tell(() -> x.errata(copy, version));
            }
        }
    }

    private void nextNumbers(HarmoniumDesk x) {
        tell(() -> x.begin(1));
        tell(() -> x.print(0, 0));
    }
}
