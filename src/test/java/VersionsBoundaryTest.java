/** The boundary cases of promises 1 to 8, each sentence of the document by itself. */
public final class VersionsBoundaryTest {
    private static final Boundary BOUNDARY = new Boundary("promise ");

    public static void main(String[] args) {
        newObjectIsEmpty();
        beginMakesNotesOf20();
        beginTakes1To12Bars();
        beginReturnsTheNumber();
        beginRefusesBarsOutOfRange();
        beginIsRefusedWith30Versions();
        branchTakesAllBars();
        branchReturnsTheNumber();
        branchRefusesNoSuchVersion();
        branchIsRefusedWith30Versions();
        setNoteTakesBothVoices();
        setNoteTakesFirstAndLastBar();
        setNoteTakes0To40();
        setNoteReturnsTheNoteBefore();
        setNoteRefusesNoSuchPlace();
        setNoteRefusesNotesOutOfRange();
        setNoteIsRefusedIfUnchangeable();
        noteTakesBothVoices();
        noteTakesFirstAndLastBar();
        noteRefusesNoSuchPlace();
        baseIsMinus1IfThereIsNone();
        baseRefusesNoSuchVersion();
        conflictsReturnASet();
        conflictsRefuseNoSuchVersion();
        conflictsAreRefusedWithoutBase();
        mergeReturnsTheNumber();
        mergeRefusesNoSuchVersion();
        mergeRefusesTheSame();
        mergeIsRefusedWithoutBaseOrRoom();
        BOUNDARY.finish();
    }

    private static void newObjectIsEmpty() {
        BOUNDARY.sentence("1", "Creates a school without scores.");
        BOUNDARY.refuses("branch", Boundary.BOUNDS, Schools::empty, x -> x.branch(0));
        BOUNDARY.refuses("setNote", Boundary.BOUNDS, Schools::empty, x -> x.setNote(0, 0, 0, 20));
        BOUNDARY.refuses("note", Boundary.BOUNDS, Schools::empty, x -> x.note(0, 0, 0));
        BOUNDARY.refuses("base", Boundary.BOUNDS, Schools::empty, x -> x.base(0, 0));
        BOUNDARY.refuses("conflicts", Boundary.BOUNDS, Schools::empty, x -> x.conflicts(0, 0));
        BOUNDARY.refuses("merge", Boundary.BOUNDS, Schools::empty, x -> x.merge(0, 1));
        BOUNDARY.refuses("faults", Boundary.BOUNDS, Schools::empty, x -> x.faults(0, 0, 0));
        BOUNDARY.refuses("mark", Boundary.BOUNDS, Schools::empty, x -> x.mark(0));
        BOUNDARY.refuses("handIn", Boundary.BOUNDS, Schools::empty, x -> x.handIn(0) ? 1 : 0);
        BOUNDARY.answers("fallen", 0, Schools::empty, HarmoniumDesk::fallen);
        BOUNDARY.refuses("best", Boundary.BOUNDS, Schools::empty, x -> x.best(0, 0, 0));
        BOUNDARY.refuses("movement", Boundary.BOUNDS, Schools::empty, x -> x.movement(0, 0));
        BOUNDARY.refuses("print", Boundary.BOUNDS, Schools::empty, x -> x.print(0, 0));
        BOUNDARY.refuses("errata", Boundary.BOUNDS, Schools::empty, x -> x.errata(0, 0));
        BOUNDARY.refuses("slip", Boundary.BOUNDS, Schools::empty, x -> x.slip(0, 0));
        BOUNDARY.refuses("slips", Boundary.BOUNDS, Schools::empty, x -> x.slips(0));
        BOUNDARY.answers("the first begin", 0, Schools::empty, x -> x.begin(1));
    }

    private static void beginMakesNotesOf20() {
        BOUNDARY.sentence("2", "Begins a new score, all notes of which are 20.");
        for (int bars : new int[] {1, 12}) {
            for (int bar = 0; bar < bars; bar++) {
                int each = bar;
                String what = bars + " bars, bar " + bar;
                BOUNDARY.answers(what + ", upper", 20, Schools.oneScore(bars), x -> x.note(0, 0, each));
                BOUNDARY.answers(what + ", lower", 20, Schools.oneScore(bars), x -> x.note(0, 1, each));
            }
        }
    }

    private static void beginTakes1To12Bars() {
        BOUNDARY.sentence("2", "`bars`: 1 to 12");
        for (int bars = 1; bars <= 12; bars++) {
            int each = bars;
            BOUNDARY.answers("begin(" + bars + ")", 0, Schools::empty, x -> x.begin(each));
            BOUNDARY.answers("last of " + bars, 20, Schools.oneScore(bars), x -> x.note(0, 0, each - 1));
            BOUNDARY.refuses("behind " + bars, Boundary.BOUNDS, Schools.oneScore(bars), x -> x.note(0, 0, each));
        }
    }

    private static void beginReturnsTheNumber() {
        BOUNDARY.sentence("2", "Returns number of the version.");
        BOUNDARY.answers("the first one", 0, Schools::empty, x -> x.begin(4));
        BOUNDARY.answers("the second one", 1, Schools.oneScore(12), x -> x.begin(4));
        BOUNDARY.answers("the 30th", 29, Schools.withVersions(29), x -> x.begin(4));
    }

    private static void beginRefusesBarsOutOfRange() {
        BOUNDARY.sentence("2", "Throws `IllegalArgumentException` if bars is out of range");
        for (int bars : Boundary.outside(1, 12)) {
            String what = "begin(" + bars + ")";
            BOUNDARY.refuses(what + " at first", Boundary.ARGUMENT, Schools::empty, x -> x.begin(bars));
            BOUNDARY.refuses(what, Boundary.ARGUMENT, Schools::busy, x -> x.begin(bars));
            BOUNDARY.refuses(what + " goes first", Boundary.ARGUMENT, Schools.withVersions(30), x -> x.begin(bars));
        }
    }

    private static void beginIsRefusedWith30Versions() {
        BOUNDARY.sentence("2", "Throws `IllegalStateException` if there are 30 versions");
        BOUNDARY.answers("with 29", 29, Schools.withVersions(29), x -> x.begin(1));
        BOUNDARY.refuses("1 bar", Boundary.STATE, Schools.withVersions(30), x -> x.begin(1));
        BOUNDARY.refuses("12 bars", Boundary.STATE, Schools.withVersions(30), x -> x.begin(12));
    }

    private static void branchTakesAllBars() {
        BOUNDARY.sentence("3", "Makes a version of another one.");
        for (int bars : new int[] {1, 12}) {
            int last = bars - 1;
            String what = "of " + bars + " bars, ";
            BOUNDARY.answers(what + "first note", 3, x -> branched(x, bars), x -> x.note(1, 0, 0));
            BOUNDARY.answers(what + "last note", 4, x -> branched(x, bars), x -> x.note(1, 1, last));
            BOUNDARY.refuses(what + "not more", Boundary.BOUNDS, x -> branched(x, bars), x -> x.note(1, 0, bars));
        }
    }

    /** Version 1 is made of 0, which has note 3 above at first and note 4 below at last. */
    private static void branched(HarmoniumDesk x, int bars) {
        x.begin(bars);
        x.setNote(0, 0, 0, 3);
        x.setNote(0, 1, bars - 1, 4);
        x.branch(0);
    }

    private static void branchReturnsTheNumber() {
        BOUNDARY.sentence("3", "Returns number of the new one.");
        BOUNDARY.answers("the second one", 1, Schools.oneScore(4), x -> x.branch(0));
        BOUNDARY.answers("the 30th", 29, Schools.withVersions(29), x -> x.branch(0));
        BOUNDARY.answers("the 30th, of the 29th", 29, Schools.withVersions(29), x -> x.branch(28));
    }

    private static void branchRefusesNoSuchVersion() {
        BOUNDARY.sentence("3", "Throws `IndexOutOfBoundsException` if there is no such version");
        for (int version : Boundary.outside(0, 6)) {
            BOUNDARY.refuses("branch(" + version + ")", Boundary.BOUNDS, Schools::busy, x -> x.branch(version));
        }
        for (int version : Boundary.outside(0, 29)) {
            BOUNDARY.refuses("branch(" + version + ") goes first", Boundary.BOUNDS, Schools.withVersions(30),
                    x -> x.branch(version));
        }
    }

    private static void branchIsRefusedWith30Versions() {
        BOUNDARY.sentence("3", "Throws `IllegalStateException` if there are 30 versions");
        BOUNDARY.answers("with 29", 29, Schools.withVersions(29), x -> x.branch(4));
        BOUNDARY.refuses("of a changeable one", Boundary.STATE, Schools.withVersions(30), x -> x.branch(4));
        BOUNDARY.refuses("of the first one", Boundary.STATE, Schools.withVersions(30), x -> x.branch(0));
        BOUNDARY.refuses("of the last one", Boundary.STATE, Schools.withVersions(30), x -> x.branch(29));
    }

    private static void setNoteTakesBothVoices() {
        BOUNDARY.sentence("4", "`voice`: 0 or 1");
        for (int voice = 0; voice <= 1; voice++) {
            int set = voice;
            int other = 1 - voice;
            BOUNDARY.answers("set in " + set, 7, x -> setIn12(x, set, 5, 7), x -> x.note(0, set, 5));
            BOUNDARY.answers("left in " + other, 20, x -> setIn12(x, set, 5, 7), x -> x.note(0, other, 5));
        }
    }

    /** Version 0 has 12 bars, in one place of which another note is set. */
    private static void setIn12(HarmoniumDesk x, int voice, int bar, int note) {
        x.begin(12);
        x.setNote(0, voice, bar, note);
    }

    private static void setNoteTakesFirstAndLastBar() {
        BOUNDARY.sentence("4", "`bar`: a bar, from 0");
        for (int bar : new int[] {0, 11}) {
            for (int looked = 0; looked < 12; looked++) {
                int each = looked;
                BOUNDARY.answers("set at " + bar + ", looked at " + each, each == bar ? 7 : 20,
                        x -> setIn12(x, 0, bar, 7), x -> x.note(0, 0, each));
            }
        }
        BOUNDARY.answers("the only bar", 20, Schools.oneScore(1), x -> x.setNote(0, 1, 0, 7));
    }

    private static void setNoteTakes0To40() {
        BOUNDARY.sentence("4", "`note`: 0 to 40");
        for (int note = 0; note <= 40; note++) {
            int each = note;
            BOUNDARY.answers("upper " + note, note, x -> setIn12(x, 0, 11, each), x -> x.note(0, 0, 11));
            BOUNDARY.answers("lower " + note, note, x -> setIn12(x, 1, 0, each), x -> x.note(0, 1, 0));
        }
    }

    private static void setNoteReturnsTheNoteBefore() {
        BOUNDARY.sentence("4", "Returns the note before.");
        BOUNDARY.answers("the first note", 20, Schools.oneScore(1), x -> x.setNote(0, 0, 0, 0));
        BOUNDARY.answers("0 before", 0, x -> setIn12(x, 0, 11, 0), x -> x.setNote(0, 0, 11, 40));
        BOUNDARY.answers("40 before", 40, x -> setIn12(x, 1, 0, 40), x -> x.setNote(0, 1, 0, 0));
        BOUNDARY.answers("the same before", 40, x -> setIn12(x, 1, 0, 40), x -> x.setNote(0, 1, 0, 40));
    }

    private static void setNoteRefusesNoSuchPlace() {
        BOUNDARY.sentence("4", "Throws `IndexOutOfBoundsException` if there is no such version, voice or bar");
        for (int version : Boundary.outside(0, 6)) {
            BOUNDARY.refuses("version " + version, Boundary.BOUNDS, Schools::busy, x -> x.setNote(version, 0, 0, 1));
            BOUNDARY.refuses("version " + version + " goes first", Boundary.BOUNDS, Schools::busy,
                    x -> x.setNote(version, 0, 0, 41));
        }
        for (int voice : Boundary.outside(0, 1)) {
            BOUNDARY.refuses("voice " + voice, Boundary.BOUNDS, Schools::busy, x -> x.setNote(4, voice, 0, 1));
            BOUNDARY.refuses("voice " + voice + " goes before note", Boundary.BOUNDS, Schools::busy,
                    x -> x.setNote(4, voice, 0, -1));
            BOUNDARY.refuses("voice " + voice + " goes before all", Boundary.BOUNDS, Schools::busy,
                    x -> x.setNote(0, voice, 0, -1));
        }
        for (int bar : Boundary.outside(0, 3)) {
            BOUNDARY.refuses("bar " + bar, Boundary.BOUNDS, Schools::busy, x -> x.setNote(4, 1, bar, 1));
            BOUNDARY.refuses("bar " + bar + " goes before note", Boundary.BOUNDS, Schools::busy,
                    x -> x.setNote(4, 1, bar, 41));
            BOUNDARY.refuses("bar " + bar + " goes before state", Boundary.BOUNDS, Schools::busy,
                    x -> x.setNote(0, 1, bar, 1));
            BOUNDARY.refuses("bar " + bar + " goes before all", Boundary.BOUNDS, Schools::busy,
                    x -> x.setNote(0, 1, bar, 41));
        }
    }

    private static void setNoteRefusesNotesOutOfRange() {
        BOUNDARY.sentence("4", "Throws `IllegalArgumentException` if note is out of range");
        for (int note : Boundary.outside(0, 40)) {
            BOUNDARY.refuses("upper " + note, Boundary.ARGUMENT, Schools::busy, x -> x.setNote(4, 0, 0, note));
            BOUNDARY.refuses("lower " + note, Boundary.ARGUMENT, Schools::busy, x -> x.setNote(4, 1, 3, note));
            BOUNDARY.refuses(note + " goes first", Boundary.ARGUMENT, Schools::busy, x -> x.setNote(0, 0, 0, note));
        }
    }

    private static void setNoteIsRefusedIfUnchangeable() {
        BOUNDARY.sentence("4", "Throws `IllegalStateException` if the version cannot be changed");
        for (int version : new int[] {0, 1, 2, 5}) {
            for (int voice = 0; voice <= 1; voice++) {
                int each = voice;
                String what = "version " + version + ", voice " + voice;
                BOUNDARY.refuses(what, Boundary.STATE, Schools::busy, x -> x.setNote(version, each, 2, 40));
                BOUNDARY.refuses(what + ", as it is", Boundary.STATE, Schools::busy,
                        x -> x.setNote(version, each, 2, x.note(version, each, 2)));
            }
        }
        for (int version : new int[] {3, 4, 6}) {
            BOUNDARY.answers("version " + version, 20, Schools::busy, x -> x.setNote(version, 1, 2, 40));
        }
    }

    private static void noteTakesBothVoices() {
        BOUNDARY.sentence("5", "`voice`: 0 or 1");
        BOUNDARY.answers("upper", 31, Schools::busy, x -> x.note(4, 0, 0));
        BOUNDARY.answers("lower", 20, Schools::busy, x -> x.note(4, 1, 0));
    }

    private static void noteTakesFirstAndLastBar() {
        BOUNDARY.sentence("5", "`bar`: a bar, from 0");
        BOUNDARY.answers("first of 12", 1, x -> setIn12(x, 1, 0, 1), x -> x.note(0, 1, 0));
        BOUNDARY.answers("last of 12", 2, x -> setIn12(x, 1, 11, 2), x -> x.note(0, 1, 11));
        BOUNDARY.answers("the only one", 20, Schools.oneScore(1), x -> x.note(0, 1, 0));
    }

    private static void noteRefusesNoSuchPlace() {
        BOUNDARY.sentence("5", "Throws `IndexOutOfBoundsException` if there is no such version, voice or bar");
        for (int version : Boundary.outside(0, 6)) {
            BOUNDARY.refuses("version " + version, Boundary.BOUNDS, Schools::busy, x -> x.note(version, 0, 0));
        }
        for (int version : Boundary.outside(0, 29)) {
            BOUNDARY.refuses("version " + version + " of 30", Boundary.BOUNDS, Schools.withVersions(30),
                    x -> x.note(version, 0, 0));
        }
        for (int voice : Boundary.outside(0, 1)) {
            BOUNDARY.refuses("voice " + voice, Boundary.BOUNDS, Schools::busy, x -> x.note(4, voice, 0));
        }
        for (int bars : new int[] {1, 4, 12}) {
            for (int bar : Boundary.outside(0, bars - 1)) {
                BOUNDARY.refuses("bar " + bar + " of " + bars, Boundary.BOUNDS, Schools.oneScore(bars),
                        x -> x.note(0, 1, bar));
            }
        }
        BOUNDARY.refuses("a bar that another version has", Boundary.BOUNDS, Schools::busy, x -> x.note(5, 0, 3));
    }

    private static void baseIsMinus1IfThereIsNone() {
        BOUNDARY.sentence("6", "Returns the base, as for merging, -1 if there is none.");
        BOUNDARY.answers("two new ones", -1, Schools::busy, x -> x.base(0, 4));
        BOUNDARY.answers("two new ones, turned", -1, Schools::busy, x -> x.base(4, 0));
        BOUNDARY.answers("a branch and a new one", -1, Schools::busy, x -> x.base(1, 5));
        BOUNDARY.answers("a new one and a branch", -1, Schools::busy, x -> x.base(6, 3));
        BOUNDARY.answers("the first one with itself", 0, Schools::busy, x -> x.base(0, 0));
        BOUNDARY.answers("the last of 30 with itself", 29, Schools.withVersions(30), x -> x.base(29, 29));
        BOUNDARY.answers("two branches of the first one", 0, Schools::busy, x -> x.base(1, 2));
    }

    private static void baseRefusesNoSuchVersion() {
        BOUNDARY.sentence("6", "Throws `IndexOutOfBoundsException` if there is no such version");
        for (int version : Boundary.outside(0, 6)) {
            BOUNDARY.refuses("first " + version, Boundary.BOUNDS, Schools::busy, x -> x.base(version, 0));
            BOUNDARY.refuses("second " + version, Boundary.BOUNDS, Schools::busy, x -> x.base(0, version));
            BOUNDARY.refuses("both " + version, Boundary.BOUNDS, Schools::busy, x -> x.base(version, version));
        }
        for (int version : Boundary.outside(0, 29)) {
            BOUNDARY.refuses("first " + version + " of 30", Boundary.BOUNDS, Schools.withVersions(30),
                    x -> x.base(version, 29));
            BOUNDARY.refuses("second " + version + " of 30", Boundary.BOUNDS, Schools.withVersions(30),
                    x -> x.base(29, version));
        }
    }

    /** Two branches, which both change the upper note of these bars, each to another note. */
    private static void changedInBoth(HarmoniumDesk x, int bars, int first, int end) {
        Schools.twoBranches(bars).accept(x);
        for (int bar = first; bar < end; bar++) {
            x.setNote(1, 0, bar, 1);
            x.setNote(2, 0, bar, 2);
        }
    }

    private static void conflictsReturnASet() {
        BOUNDARY.sentence("7", "Returns the bars, as a set: bit b for bar b.");
        BOUNDARY.answers("none", 0, Schools.twoBranches(12), x -> x.conflicts(1, 2));
        BOUNDARY.answers("bit 0", 1, x -> changedInBoth(x, 12, 0, 1), x -> x.conflicts(1, 2));
        BOUNDARY.answers("bit 11", 2048, x -> changedInBoth(x, 12, 11, 12), x -> x.conflicts(1, 2));
        BOUNDARY.answers("all", 4095, x -> changedInBoth(x, 12, 0, 12), x -> x.conflicts(1, 2));
        BOUNDARY.answers("the only bar", 1, x -> changedInBoth(x, 1, 0, 1), x -> x.conflicts(2, 1));
        BOUNDARY.answers("with itself", 0, x -> changedInBoth(x, 12, 0, 12), x -> x.conflicts(1, 1));
        BOUNDARY.changesNothing("asking", Schools::busy, x -> x.conflicts(1, 2));
    }

    private static void conflictsRefuseNoSuchVersion() {
        BOUNDARY.sentence("7", "Throws `IndexOutOfBoundsException` if there is no such version");
        for (int version : Boundary.outside(0, 6)) {
            BOUNDARY.refuses("first " + version, Boundary.BOUNDS, Schools::busy, x -> x.conflicts(version, 4));
            BOUNDARY.refuses("second " + version, Boundary.BOUNDS, Schools::busy, x -> x.conflicts(4, version));
            BOUNDARY.refuses("both " + version, Boundary.BOUNDS, Schools::busy, x -> x.conflicts(version, version));
        }
    }

    private static void conflictsAreRefusedWithoutBase() {
        BOUNDARY.sentence("7", "Throws `IllegalStateException` if they have no base");
        BOUNDARY.refuses("as many bars", Boundary.STATE, Schools::busy, x -> x.conflicts(0, 4));
        BOUNDARY.refuses("a merged one", Boundary.STATE, Schools::busy, x -> x.conflicts(4, 3));
        BOUNDARY.refuses("fewer bars", Boundary.STATE, Schools::busy, x -> x.conflicts(0, 5));
        BOUNDARY.refuses("more bars", Boundary.STATE, Schools::busy, x -> x.conflicts(0, 6));
        BOUNDARY.answers("30 versions do not matter", 0, Schools.withVersions(30), x -> x.conflicts(0, 1));
    }

    private static void mergeReturnsTheNumber() {
        BOUNDARY.sentence("8", "Returns number of the new one.");
        BOUNDARY.answers("the first that can be", 2, Schools.oneScore(4).andThen(x -> x.branch(0)), x -> x.merge(0, 1));
        BOUNDARY.answers("the 30th", 29, Schools.withVersions(29), x -> x.merge(1, 3));
    }

    private static void mergeRefusesNoSuchVersion() {
        BOUNDARY.sentence("8", "Throws `IndexOutOfBoundsException` if there is no such version");
        for (int version : Boundary.outside(0, 6)) {
            BOUNDARY.refuses("first " + version, Boundary.BOUNDS, Schools::busy, x -> x.merge(version, 3));
            BOUNDARY.refuses("second " + version, Boundary.BOUNDS, Schools::busy, x -> x.merge(3, version));
            BOUNDARY.refuses("the same " + version, Boundary.BOUNDS, Schools::busy, x -> x.merge(version, version));
        }
        for (int version : Boundary.outside(0, 29)) {
            BOUNDARY.refuses("first " + version + " goes first", Boundary.BOUNDS, Schools.withVersions(30),
                    x -> x.merge(version, 3));
            BOUNDARY.refuses("second " + version + " goes first", Boundary.BOUNDS, Schools.withVersions(30),
                    x -> x.merge(3, version));
            BOUNDARY.refuses("the same " + version + " goes first", Boundary.BOUNDS, Schools.withVersions(30),
                    x -> x.merge(version, version));
        }
    }

    private static void mergeRefusesTheSame() {
        BOUNDARY.sentence("8", "Throws `IllegalArgumentException` if both are the same");
        for (int version = 0; version <= 6; version++) {
            int each = version;
            BOUNDARY.refuses("merge of " + each + " twice", Boundary.ARGUMENT, Schools::busy, x -> x.merge(each, each));
        }
        BOUNDARY.refuses("it goes first", Boundary.ARGUMENT, Schools.withVersions(30), x -> x.merge(29, 29));
    }

    private static void mergeIsRefusedWithoutBaseOrRoom() {
        BOUNDARY.sentence("8", "Throws `IllegalStateException` if they have no base, or there are 30 versions");
        BOUNDARY.refuses("no base", Boundary.STATE, Schools::busy, x -> x.merge(3, 4));
        BOUNDARY.refuses("no base, turned", Boundary.STATE, Schools::busy, x -> x.merge(4, 3));
        BOUNDARY.refuses("no base, fewer bars", Boundary.STATE, Schools::busy, x -> x.merge(6, 4));
        BOUNDARY.refuses("no base, more bars", Boundary.STATE, Schools::busy, x -> x.merge(4, 6));
        BOUNDARY.answers("29 versions", 29, Schools.withVersions(29), x -> x.merge(3, 0));
        BOUNDARY.refuses("30 versions", Boundary.STATE, Schools.withVersions(30), x -> x.merge(3, 0));
        BOUNDARY.refuses("30 versions, turned", Boundary.STATE, Schools.withVersions(30), x -> x.merge(0, 3));
        BOUNDARY.refuses("30 versions and no base", Boundary.STATE, Schools.withVersions(30), x -> x.merge(28, 29));
    }
}
