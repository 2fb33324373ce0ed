import java.util.function.Consumer;

/** The boundary cases of promises 17 to 20, each sentence of the document by itself. */
public final class CopiesBoundaryTest {
    private static final Boundary BOUNDARY = new Boundary("promise ");

    public static void main(String[] args) {
        printTakesBothVoices();
        printReturnsTheNumber();
        printRefusesNoSuchVersionOrVoice();
        printIsRefusedWith20Copies();
        errataAreInTheCopysVoice();
        errataReturnASet();
        errataRefuseNoSuchCopyOrVersion();
        errataAreRefusedForOtherBars();
        slipMakesTheCopyAsTheVersion();
        slipReturnsHowManyBarsAreChanged();
        slipRefusesNoSuchCopyOrVersion();
        slipIsRefusedForOtherBars();
        slipsAreCountedEachTime();
        slipsRefuseNoSuchCopy();
        BOUNDARY.finish();
    }

    /** Versions 0 and 1 of so many bars; in these bars of version 1 one voice has 40. Copy 0 is of version 0. */
    private static Consumer<HarmoniumDesk> printed(int bars, int voice, int first, int end) {
        return x -> {
            x.begin(bars);
            x.begin(bars);
            for (int bar = first; bar < end; bar++) {
                x.setNote(1, voice, bar, 40);
            }
            x.print(0, voice);
        };
    }

    private static void printTakesBothVoices() {
        BOUNDARY.sentence("17", "`voice`: 0 or 1");
        Consumer<HarmoniumDesk> score = Schools.score(new int[] {1, 20}, new int[] {20, 2})
                .andThen(x -> x.begin(2));
        BOUNDARY.answers("upper", 1, score.andThen(x -> x.print(0, 0)), x -> x.errata(0, 1));
        BOUNDARY.answers("lower", 2, score.andThen(x -> x.print(0, 1)), x -> x.errata(0, 1));
    }

    private static void printReturnsTheNumber() {
        BOUNDARY.sentence("17", "Returns number of the copy.");
        BOUNDARY.answers("the first one", 0, Schools.oneScore(1), x -> x.print(0, 1));
        BOUNDARY.answers("the third one", 2, Schools::busy, x -> x.print(0, 0));
        BOUNDARY.answers("the 20th", 19, Schools.withCopies(19), x -> x.print(4, 1));
        BOUNDARY.answers("of the 30th version", 2, Schools.withVersions(30), x -> x.print(29, 1));
    }

    private static void printRefusesNoSuchVersionOrVoice() {
        BOUNDARY.sentence("17", "Throws `IndexOutOfBoundsException` if there is no such version or voice");
        for (int version : Boundary.outside(0, 6)) {
            BOUNDARY.refuses("version " + version, Boundary.BOUNDS, Schools::busy, x -> x.print(version, 0));
            BOUNDARY.refuses("version " + version + " goes first", Boundary.BOUNDS, Schools.withCopies(20),
                    x -> x.print(version, 0));
        }
        for (int voice : Boundary.outside(0, 1)) {
            BOUNDARY.refuses("voice " + voice, Boundary.BOUNDS, Schools::busy, x -> x.print(4, voice));
            BOUNDARY.refuses("voice " + voice + " goes first", Boundary.BOUNDS, Schools.withCopies(20),
                    x -> x.print(4, voice));
        }
    }

    private static void printIsRefusedWith20Copies() {
        BOUNDARY.sentence("17", "Throws `IllegalStateException` if there are 20 copies");
        BOUNDARY.answers("with 19", 19, Schools.withCopies(19), x -> x.print(4, 0));
        BOUNDARY.refuses("of a changeable version", Boundary.STATE, Schools.withCopies(20), x -> x.print(4, 0));
        BOUNDARY.refuses("of a printed version", Boundary.STATE, Schools.withCopies(20), x -> x.print(0, 1));
    }

    private static void errataAreInTheCopysVoice() {
        BOUNDARY.sentence("18", "Returns in which bars a copy is other than a version, in its voice.");
        BOUNDARY.answers("upper", 1, printed(4, 0, 0, 1), x -> x.errata(0, 1));
        BOUNDARY.answers("lower", 1, printed(4, 1, 0, 1), x -> x.errata(0, 1));
        BOUNDARY.answers("upper, where the lower one is other", 0,
                printed(4, 0, 0, 0).andThen(x -> x.setNote(1, 1, 0, 1)), x -> x.errata(0, 1));
        BOUNDARY.answers("lower, where the upper one is other", 0,
                printed(4, 1, 0, 0).andThen(x -> x.setNote(1, 0, 0, 1)), x -> x.errata(0, 1));
    }

    private static void errataReturnASet() {
        BOUNDARY.sentence("18", "Returns the bars, as a set: bit b for bar b.");
        BOUNDARY.answers("none", 0, printed(12, 0, 0, 0), x -> x.errata(0, 1));
        for (int bar = 0; bar < 12; bar++) {
            BOUNDARY.answers("bar " + bar, 1 << bar, printed(12, 0, bar, bar + 1), x -> x.errata(0, 1));
        }
        BOUNDARY.answers("all", 4095, printed(12, 1, 0, 12), x -> x.errata(0, 1));
        BOUNDARY.answers("the only one", 1, printed(1, 1, 0, 1), x -> x.errata(0, 1));
        BOUNDARY.changesNothing("asking", Schools::busy, x -> x.errata(0, 3));
    }

    private static void errataRefuseNoSuchCopyOrVersion() {
        BOUNDARY.sentence("18", "Throws `IndexOutOfBoundsException` if there is no such copy or version");
        for (int copy : Boundary.outside(0, 1)) {
            BOUNDARY.refuses("copy " + copy, Boundary.BOUNDS, Schools::busy, x -> x.errata(copy, 4));
        }
        for (int copy : Boundary.outside(0, 19)) {
            BOUNDARY.refuses("copy " + copy + " of 20", Boundary.BOUNDS, Schools.withCopies(20),
                    x -> x.errata(copy, 4));
        }
        for (int version : Boundary.outside(0, 6)) {
            BOUNDARY.refuses("version " + version, Boundary.BOUNDS, Schools::busy, x -> x.errata(0, version));
            BOUNDARY.refuses("both " + version, Boundary.BOUNDS, Schools::busy, x -> x.errata(version, version));
        }
    }

    private static void errataAreRefusedForOtherBars() {
        BOUNDARY.sentence("18", "Throws `IllegalStateException` if the version has not as many bars");
        BOUNDARY.refuses("fewer", Boundary.STATE, Schools::busy, x -> x.errata(0, 5));
        BOUNDARY.refuses("more", Boundary.STATE, Schools::busy, x -> x.errata(0, 6));
        BOUNDARY.refuses("more than copy 1", Boundary.STATE, Schools::busy, x -> x.errata(1, 4));
        BOUNDARY.answers("as many", 9, Schools::busy, x -> x.errata(0, 0));
    }

    private static void slipMakesTheCopyAsTheVersion() {
        BOUNDARY.sentence("19", "Puts slips into a copy, so that it is as a version.");
        for (int voice = 0; voice <= 1; voice++) {
            Consumer<HarmoniumDesk> slipped = printed(12, voice, 0, 12).andThen(x -> x.slip(0, 1));
            BOUNDARY.answers("as version 1, voice " + voice, 0, slipped, x -> x.errata(0, 1));
            BOUNDARY.answers("no longer as 0, voice " + voice, 4095, slipped, x -> x.errata(0, 0));
            BOUNDARY.answers("back as 0, voice " + voice, 0, slipped.andThen(x -> x.slip(0, 0)), x -> x.errata(0, 0));
        }
        Consumer<HarmoniumDesk> slipped = printed(12, 0, 11, 12).andThen(x -> x.slip(0, 1));
        BOUNDARY.answers("the version can be changed", 40, slipped, x -> x.setNote(1, 0, 11, 0));
        BOUNDARY.answers("what was printed stays", 20, slipped, x -> x.note(0, 0, 11));
        BOUNDARY.answers("another copy stays", 0,
                printed(12, 0, 11, 12).andThen(x -> x.print(0, 0)).andThen(x -> x.slip(0, 1)), x -> x.errata(1, 0));
    }

    private static void slipReturnsHowManyBarsAreChanged() {
        BOUNDARY.sentence("19", "Returns how many bars are changed by that.");
        BOUNDARY.answers("none", 0, printed(12, 0, 0, 0), x -> x.slip(0, 1));
        BOUNDARY.answers("the first one", 1, printed(12, 0, 0, 1), x -> x.slip(0, 1));
        BOUNDARY.answers("the last one", 1, printed(12, 1, 11, 12), x -> x.slip(0, 1));
        BOUNDARY.answers("all", 12, printed(12, 1, 0, 12), x -> x.slip(0, 1));
        BOUNDARY.answers("the only one", 1, printed(1, 1, 0, 1), x -> x.slip(0, 1));
        BOUNDARY.answers("none the second time", 0, printed(12, 0, 0, 12).andThen(x -> x.slip(0, 1)),
                x -> x.slip(0, 1));
    }

    private static void slipRefusesNoSuchCopyOrVersion() {
        BOUNDARY.sentence("19", "Throws `IndexOutOfBoundsException` if there is no such copy or version");
        for (int copy : Boundary.outside(0, 1)) {
            BOUNDARY.refuses("copy " + copy, Boundary.BOUNDS, Schools::busy, x -> x.slip(copy, 3));
        }
        for (int copy : Boundary.outside(0, 19)) {
            BOUNDARY.refuses("copy " + copy + " of 20", Boundary.BOUNDS, Schools.withCopies(20), x -> x.slip(copy, 3));
        }
        for (int version : Boundary.outside(0, 6)) {
            BOUNDARY.refuses("version " + version, Boundary.BOUNDS, Schools::busy, x -> x.slip(0, version));
            BOUNDARY.refuses("both " + version, Boundary.BOUNDS, Schools::busy, x -> x.slip(version, version));
        }
    }

    private static void slipIsRefusedForOtherBars() {
        BOUNDARY.sentence("19", "Throws `IllegalStateException` if the version has not as many bars");
        BOUNDARY.refuses("fewer", Boundary.STATE, Schools::busy, x -> x.slip(0, 5));
        BOUNDARY.refuses("more", Boundary.STATE, Schools::busy, x -> x.slip(0, 6));
        BOUNDARY.refuses("more than copy 1", Boundary.STATE, Schools::busy, x -> x.slip(1, 4));
        BOUNDARY.answers("as many", 2, Schools::busy, x -> x.slip(0, 0));
    }

    private static void slipsAreCountedEachTime() {
        BOUNDARY.sentence("20", "Returns how many bars were changed in a copy by slips, each time counted.");
        BOUNDARY.answers("none at first", 0, Schools.oneScore(1).andThen(x -> x.print(0, 0)), x -> x.slips(0));
        BOUNDARY.answers("none by a slip of nothing", 0, printed(12, 0, 0, 0).andThen(x -> x.slip(0, 1)),
                x -> x.slips(0));
        BOUNDARY.answers("12 by one slip", 12, printed(12, 0, 0, 12).andThen(x -> x.slip(0, 1)), x -> x.slips(0));
        BOUNDARY.answers("12 by the same slip twice", 12,
                printed(12, 0, 0, 12).andThen(x -> x.slip(0, 1)).andThen(x -> x.slip(0, 1)), x -> x.slips(0));
        BOUNDARY.answers("more than a byte holds", 12 * 40, printed(12, 1, 0, 12).andThen(x -> slipTurns(x, 40)),
                x -> x.slips(0));
        BOUNDARY.answers("none in another copy", 0,
                printed(12, 0, 0, 12).andThen(x -> x.print(0, 0)).andThen(x -> x.slip(0, 1)), x -> x.slips(1));
        BOUNDARY.answers("in the last copy of 20", 1,
                Schools.withCopies(20).andThen(x -> x.slip(18, 4)).andThen(x -> x.slip(19, 4)), x -> x.slips(19));
        BOUNDARY.changesNothing("asking", Schools::busy, x -> x.slips(0));
    }

    /** Copy 0 is made as version 1 and back as version 0 in turn. */
    private static void slipTurns(HarmoniumDesk x, int times) {
        for (int time = 0; time < times; time++) {
            x.slip(0, 1 - time % 2);
        }
    }

    private static void slipsRefuseNoSuchCopy() {
        BOUNDARY.sentence("20", "Throws `IndexOutOfBoundsException` if there is no such copy");
        for (int copy : Boundary.outside(0, 1)) {
            BOUNDARY.refuses("slips(" + copy + ")", Boundary.BOUNDS, Schools::busy, x -> x.slips(copy));
        }
        for (int copy : Boundary.outside(0, 19)) {
            BOUNDARY.refuses("slips(" + copy + ") of 20", Boundary.BOUNDS, Schools.withCopies(20), x -> x.slips(copy));
        }
    }
}
