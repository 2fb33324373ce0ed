import java.util.function.Consumer;
import java.util.function.ToDoubleFunction;

/** The boundary cases that the document's first sections name, each sentence by itself. */
public final class TermsBoundaryTest {
    private static final Boundary BOUNDARY = new Boundary("");
    private static final int CROSSING = 3;

    public static void main(String[] args) {
        the512thCallAnswers();
        versionsAreAtMost30();
        versionsHave1To12BarsOfTwoVoices();
        notesAre0To40();
        newVersionsHaveNoParent();
        ancestorsGoUpToTheFirst();
        versionsCanBeChangedAsLongAs();
        mergedVersionsHaveTheFirstAsParent();
        basesHaveTheHighestNumber();
        mergingGoesBarByBar();
        conflictsAreDifferentInAllThree();
        copiesAreAtMost20();
        copiesHaveTheNotesAsTheyWereThen();
        whatDoesNotExistIsOutOfBounds();
        theLastOfAllExists();
        exceptionsGoByTheirOrder();
        refusedCallsChangeNothing();
        BOUNDARY.finish();
    }

    private static void the512thCallAnswers() {
        BOUNDARY.sentence("What it is", "An object is used for at most 512 calls after it has been made");
        Consumer<HarmoniumDesk> used = x -> {
            x.begin(4);
            for (int call = 2; call <= 511; call++) {
                x.setNote(0, 0, 3, call % 41);
            }
        };
        BOUNDARY.answers("note", 511 % 41, used, x -> x.note(0, 0, 3));
        BOUNDARY.answers("branch", 1, used, x -> x.branch(0));
    }

    private static void versionsAreAtMost30() {
        BOUNDARY.sentence("Terms", "Versions are numbered from 0, at most 30.");
        BOUNDARY.answers("the first one is 0", 0, Schools::empty, x -> x.begin(1));
        Consumer<HarmoniumDesk> full = Schools.withVersions(30);
        BOUNDARY.answers("the last one is 29", 20, full, x -> x.note(29, 1, 3));
        BOUNDARY.refuses("there is no 30", Boundary.BOUNDS, full, x -> x.note(30, 1, 3));
        BOUNDARY.refuses("no 31st by begin", Boundary.STATE, full, x -> x.begin(1));
        BOUNDARY.refuses("no 31st by branch", Boundary.STATE, full, x -> x.branch(3));
        BOUNDARY.refuses("no 31st by merge", Boundary.STATE, full, x -> x.merge(1, 3));
    }

    private static void versionsHave1To12BarsOfTwoVoices() {
        BOUNDARY.sentence("Terms", "A version has 1 to 12 bars, each with a note of the upper voice (0) and one of "
                + "the lower voice (1)");
        for (int bars : new int[] {1, 12}) {
            Consumer<HarmoniumDesk> score = Schools.oneScore(bars);
            for (int voice = 0; voice <= 1; voice++) {
                int each = voice;
                String what = bars + " bars, voice " + voice;
                BOUNDARY.answers(what + ", first bar", 20, score, x -> x.note(0, each, 0));
                BOUNDARY.answers(what + ", last bar", 20, score, x -> x.note(0, each, bars - 1));
                BOUNDARY.refuses(what + ", bar " + bars, Boundary.BOUNDS, score, x -> x.note(0, each, bars));
                BOUNDARY.refuses(what + ", bar -1", Boundary.BOUNDS, score, x -> x.note(0, each, -1));
            }
            BOUNDARY.refuses("voice 2 of " + bars, Boundary.BOUNDS, score, x -> x.note(0, 2, 0));
            BOUNDARY.refuses("voice -1 of " + bars, Boundary.BOUNDS, score, x -> x.note(0, -1, 0));
        }
        BOUNDARY.refuses("0 bars", Boundary.ARGUMENT, Schools::empty, x -> x.begin(0));
        BOUNDARY.refuses("13 bars", Boundary.ARGUMENT, Schools::empty, x -> x.begin(13));
    }

    private static void notesAre0To40() {
        BOUNDARY.sentence("Terms", "a note is a number from 0 to 40, a greater one is higher");
        Consumer<HarmoniumDesk> score = Schools.score(new int[] {0, 40, 1, 39}, new int[] {1, 39, 0, 40});
        BOUNDARY.answers("0 is set", 0, score, x -> x.note(0, 0, 0));
        BOUNDARY.answers("40 is set", 40, score, x -> x.note(0, 0, 1));
        BOUNDARY.refuses("no -1", Boundary.ARGUMENT, score, x -> x.setNote(0, 0, 0, -1));
        BOUNDARY.refuses("no 41", Boundary.ARGUMENT, score, x -> x.setNote(0, 0, 0, 41));
        BOUNDARY.answers("0 is lower than 1", 1, score, x -> x.faults(0, 0, CROSSING));
        BOUNDARY.answers("40 is not lower than 39", 0, score, x -> x.faults(0, 1, CROSSING));
        BOUNDARY.answers("1 is not lower than 0", 0, score, x -> x.faults(0, 2, CROSSING));
        BOUNDARY.answers("39 is lower than 40", 1, score, x -> x.faults(0, 3, CROSSING));
    }

    private static void newVersionsHaveNoParent() {
        BOUNDARY.sentence("Terms", "A version is new, and has no parent, or it is made of another one, its parent, "
                + "from which it has all notes at first.");
        BOUNDARY.answers("a new one has no parent", -1, Schools::busy, x -> x.base(4, 3));
        BOUNDARY.answers("a branch has its parent", 0, Schools::busy, x -> x.base(1, 0));
        int[] upper = {0, 1, 2, 3, 4, 5, 6, 7, 8, 9, 10, 11};
        int[] lower = {40, 39, 38, 37, 36, 35, 34, 33, 32, 31, 30, 29};
        Consumer<HarmoniumDesk> branched = Schools.score(upper, lower).andThen(x -> x.branch(0));
        for (int bar = 0; bar < 12; bar++) {
            int each = bar;
            BOUNDARY.answers("upper note " + bar, upper[bar], branched, x -> x.note(1, 0, each));
            BOUNDARY.answers("lower note " + bar, lower[bar], branched, x -> x.note(1, 1, each));
        }
        BOUNDARY.refuses("no more bars", Boundary.BOUNDS, branched, x -> x.note(1, 0, 12));
        Consumer<HarmoniumDesk> changed = branched.andThen(x -> x.setNote(1, 0, 0, 20));
        BOUNDARY.answers("at first, not for ever", 20, changed, x -> x.note(1, 0, 0));
        BOUNDARY.answers("the parent keeps its notes", 0, changed, x -> x.note(0, 0, 0));
    }

    /** 30 versions, each made of the one before. */
    private static void chain(HarmoniumDesk x) {
        x.begin(1);
        for (int version = 0; version < 29; version++) {
            x.branch(version);
        }
    }

    private static void ancestorsGoUpToTheFirst() {
        BOUNDARY.sentence("Terms", "The ancestors of a version are itself, its parent, the parent of that, and so "
                + "on.");
        for (int version = 0; version < 30; version++) {
            int each = version;
            BOUNDARY.answers(version + " of the last one", version, TermsBoundaryTest::chain, x -> x.base(each, 29));
            BOUNDARY.answers(version + " of itself", version, TermsBoundaryTest::chain, x -> x.base(each, each));
            BOUNDARY.answers("the first one of " + version, 0, TermsBoundaryTest::chain, x -> x.base(each, 0));
        }
    }

    private static void versionsCanBeChangedAsLongAs() {
        BOUNDARY.sentence("Terms", "A version can be changed as long as none is made of it by branching, it was not "
                + "merged with another one, as the first one or as the other one, and no copy was printed of it.");
        Consumer<HarmoniumDesk> free = Schools.twoBranches(3);
        BOUNDARY.answers("a branch of another one", 20, free, x -> x.setNote(1, 0, 0, 1));
        BOUNDARY.refuses("branched", Boundary.STATE, free.andThen(x -> x.branch(1)), x -> x.setNote(1, 0, 0, 1));
        Consumer<HarmoniumDesk> merged = free.andThen(x -> x.merge(1, 2));
        BOUNDARY.refuses("merged as the first one", Boundary.STATE, merged, x -> x.setNote(1, 0, 0, 1));
        BOUNDARY.refuses("merged as the other one", Boundary.STATE, merged, x -> x.setNote(2, 0, 0, 1));
        BOUNDARY.answers("made by merging", 20, merged, x -> x.setNote(3, 0, 0, 1));
        for (int voice = 0; voice <= 1; voice++) {
            int each = voice;
            Consumer<HarmoniumDesk> printed = free.andThen(x -> x.print(1, each));
            BOUNDARY.refuses("printed, upper", Boundary.STATE, printed, x -> x.setNote(1, 0, 0, 1));
            BOUNDARY.refuses("printed, lower", Boundary.STATE, printed, x -> x.setNote(1, 1, 0, 1));
            BOUNDARY.answers("another one is printed", 20, printed, x -> x.setNote(2, 0, 0, 1));
        }
        BOUNDARY.answers("all else leaves it changeable", 20, free.andThen(TermsBoundaryTest::callAllElse),
                x -> x.setNote(1, 0, 0, 1));
    }

    private static void callAllElse(HarmoniumDesk x) {
        x.setNote(1, 1, 0, 1);
        x.note(1, 0, 0);
        x.base(1, 2);
        x.conflicts(1, 2);
        x.setWeight(0, 1);
        x.setPass(1);
        x.faults(1, 0, 0);
        x.mark(1);
        x.handIn(1);
        x.fallen();
        x.best(1, 0, 0);
        x.movement(1, 0);
        x.print(0, 0);
        x.errata(0, 1);
        x.slip(0, 1);
        x.slips(0);
    }

    private static void mergedVersionsHaveTheFirstAsParent() {
        BOUNDARY.sentence("Terms", "Merging makes a version of two with as many bars: its parent is the first one");
        for (int bars : new int[] {1, 12}) {
            Consumer<HarmoniumDesk> merged = Schools.twoBranches(bars).andThen(x -> x.merge(2, 1));
            BOUNDARY.answers("last of " + bars, 20, merged, x -> x.note(3, 1, bars - 1));
            BOUNDARY.refuses("behind " + bars, Boundary.BOUNDS, merged, x -> x.note(3, 1, bars));
            BOUNDARY.answers("the first one is the parent", 2, merged, x -> x.base(3, 2));
            BOUNDARY.answers("the second one is no ancestor", 0, merged, x -> x.base(3, 1));
        }
        BOUNDARY.answers("a child with its parent", 1, Schools.twoBranches(4).andThen(x -> x.merge(1, 0)),
                x -> x.base(3, 1));
        BOUNDARY.answers("a parent with its child", 0, Schools.twoBranches(4).andThen(x -> x.merge(0, 1)),
                x -> x.base(3, 1));
        BOUNDARY.refuses("no more, no fewer bars", Boundary.STATE, Schools::busy, x -> x.merge(4, 6));
    }

    private static void basesHaveTheHighestNumber() {
        BOUNDARY.sentence("Terms", "the base is the ancestor of the first one with the highest number that is an "
                + "ancestor of the second one, too");
        Consumer<HarmoniumDesk> tree = x -> {
            x.begin(12); // 0
            x.branch(0); // 1
            x.branch(1); // 2
            x.branch(1); // 3
            x.branch(2); // 4
            x.merge(4, 3); // 5
            x.merge(3, 5); // 6
        };
        int[][] due = {
            {2, 3, 1}, {4, 3, 1}, {4, 2, 2}, {2, 4, 2}, {5, 4, 4}, {5, 3, 1}, {5, 2, 2},
            {6, 3, 3}, {6, 5, 1}, {5, 6, 1}, {6, 4, 1}, {6, 0, 0}, {0, 6, 0}, {1, 6, 1},
        };
        for (int[] row : due) {
            BOUNDARY.answers("of " + row[0] + " and " + row[1], row[2], tree, x -> x.base(row[0], row[1]));
        }
    }

    /** The first bar of the base is 20, 20, in the branches it is this; what has bar 0 when merged? */
    private static void merged(String what, int[] first, int[] second, int[] due) {
        for (int bar : new int[] {0, 11}) {
            Consumer<HarmoniumDesk> merged = Schools.twoBranches(12).andThen(x -> {
                x.setNote(1, 0, bar, first[0]);
                x.setNote(1, 1, bar, first[1]);
                x.setNote(2, 0, bar, second[0]);
                x.setNote(2, 1, bar, second[1]);
                x.merge(1, 2);
            });
            BOUNDARY.answers(what + ", bar " + bar + ", upper", due[0], merged, x -> x.note(3, 0, bar));
            BOUNDARY.answers(what + ", bar " + bar + ", lower", due[1], merged, x -> x.note(3, 1, bar));
            BOUNDARY.answers(what + ", beside bar " + bar, 20, merged, x -> x.note(3, 0, bar == 0 ? 1 : 10));
        }
    }

    private static void mergingGoesBarByBar() {
        BOUNDARY.sentence("Terms", "Bar by bar (a bar is the same if both notes are): if the bar is the same in "
                + "both, it is that; if it is in the first one as in the base, it is that of the second one; "
                + "otherwise it is that of the first one.");
        merged("as in the base in both", new int[] {20, 20}, new int[] {20, 20}, new int[] {20, 20});
        merged("the same in both", new int[] {1, 2}, new int[] {1, 2}, new int[] {1, 2});
        merged("upper changed in the second", new int[] {20, 20}, new int[] {3, 20}, new int[] {3, 20});
        merged("lower changed in the second", new int[] {20, 20}, new int[] {20, 4}, new int[] {20, 4});
        merged("upper changed in the first", new int[] {1, 20}, new int[] {20, 20}, new int[] {1, 20});
        merged("lower changed in the first", new int[] {20, 2}, new int[] {20, 20}, new int[] {20, 2});
        merged("changed in both", new int[] {1, 2}, new int[] {3, 4}, new int[] {1, 2});
        merged("another voice in each", new int[] {1, 20}, new int[] {20, 4}, new int[] {1, 20});
        merged("upper as in the second alone", new int[] {1, 20}, new int[] {1, 4}, new int[] {1, 20});
        merged("lower as in the second alone", new int[] {20, 2}, new int[] {3, 2}, new int[] {20, 2});
    }

    private static void conflicting(String what, int due, int[] first, int[] second) {
        Consumer<HarmoniumDesk> branches = Schools.twoBranches(1).andThen(x -> {
            x.setNote(1, 0, 0, first[0]);
            x.setNote(1, 1, 0, first[1]);
            x.setNote(2, 0, 0, second[0]);
            x.setNote(2, 1, 0, second[1]);
        });
        BOUNDARY.answers(what, due, branches, x -> x.conflicts(1, 2));
        BOUNDARY.answers(what + ", turned", due, branches, x -> x.conflicts(2, 1));
    }

    private static void conflictsAreDifferentInAllThree() {
        BOUNDARY.sentence("Terms", "It is a conflict if the bar is different in all three.");
        conflicting("no change", 0, new int[] {20, 20}, new int[] {20, 20});
        conflicting("one changed", 0, new int[] {20, 20}, new int[] {3, 4});
        conflicting("both changed to the same", 0, new int[] {3, 4}, new int[] {3, 4});
        conflicting("both changed", 1, new int[] {1, 2}, new int[] {3, 4});
        conflicting("upper changed in both", 1, new int[] {1, 20}, new int[] {3, 20});
        conflicting("lower changed in both", 1, new int[] {20, 2}, new int[] {20, 4});
        conflicting("another voice in each", 1, new int[] {1, 20}, new int[] {20, 4});
        conflicting("one voice the same in both", 1, new int[] {1, 20}, new int[] {1, 4});
    }

    private static void copiesAreAtMost20() {
        BOUNDARY.sentence("Terms", "Copies are numbered from 0, at most 20.");
        BOUNDARY.answers("the first one is 0", 0, Schools.oneScore(1), x -> x.print(0, 0));
        BOUNDARY.answers("the last one is 19", 9, Schools.withCopies(20), x -> x.errata(18, 4));
        BOUNDARY.answers("19 is there", 0, Schools.withCopies(20), x -> x.slips(19));
        BOUNDARY.refuses("there is no 20", Boundary.BOUNDS, Schools.withCopies(20), x -> x.slips(20));
        BOUNDARY.refuses("no 21st", Boundary.STATE, Schools.withCopies(20), x -> x.print(3, 0));
    }

    private static void copiesHaveTheNotesAsTheyWereThen() {
        BOUNDARY.sentence("Terms", "A copy is of a voice of a version, and has its notes as they were then; slips "
                + "change it bar by bar to those of another version with as many bars.");
        for (int voice = 0; voice <= 1; voice++) {
            int each = voice;
            Consumer<HarmoniumDesk> printed = x -> {
                x.begin(12);
                x.begin(12);
                x.setNote(0, each, 0, 1);
                x.setNote(0, 1 - each, 5, 2);
                x.print(0, each);
                x.setNote(1, each, 11, 40);
            };
            String what = ", voice " + voice;
            BOUNDARY.answers("as they were" + what, 0, printed, x -> x.errata(0, 0));
            BOUNDARY.answers("first and last bar" + what, 1 + 2048, printed, x -> x.errata(0, 1));
            Consumer<HarmoniumDesk> later = printed.andThen(x -> x.slip(0, 1)).andThen(x -> x.setNote(1, each, 11, 39));
            BOUNDARY.answers("a later note is not in it" + what, 2048, later, x -> x.errata(0, 1));
            BOUNDARY.answers("the version keeps its notes" + what, 1, later, x -> x.note(0, each, 0));
        }
        Consumer<HarmoniumDesk> other = Schools.oneScore(12).andThen(x -> x.begin(11)).andThen(x -> x.print(0, 0));
        BOUNDARY.refuses("one bar less", Boundary.STATE, other, x -> x.slip(0, 1));
    }

    private static void whatDoesNotExistIsOutOfBounds() {
        BOUNDARY.sentence("Terms", "IndexOutOfBoundsException is thrown for a version, voice, bar, rule or copy that "
                + "does not exist, IllegalArgumentException for another argument out of range, and "
                + "IllegalStateException if a call is not possible now.");
        outOfBounds("version -1", x -> x.note(-1, 0, 0));
        outOfBounds("version 7 of 7", x -> x.note(7, 0, 0));
        outOfBounds("voice -1", x -> x.note(4, -1, 0));
        outOfBounds("voice 2", x -> x.note(4, 2, 0));
        outOfBounds("bar -1", x -> x.note(4, 0, -1));
        outOfBounds("bar 4 of 4", x -> x.note(4, 0, 4));
        outOfBounds("rule -1", x -> x.setWeight(-1, 0));
        outOfBounds("rule 6", x -> x.setWeight(6, 0));
        outOfBounds("copy -1", x -> x.slips(-1));
        outOfBounds("copy 2 of 2", x -> x.slips(2));
        BOUNDARY.refuses("0 bars", Boundary.ARGUMENT, Schools::busy, x -> x.begin(0));
        BOUNDARY.refuses("13 bars", Boundary.ARGUMENT, Schools::busy, x -> x.begin(13));
        BOUNDARY.refuses("note -1", Boundary.ARGUMENT, Schools::busy, x -> x.setNote(4, 0, 0, -1));
        BOUNDARY.refuses("note 41", Boundary.ARGUMENT, Schools::busy, x -> x.setNote(4, 0, 0, 41));
        BOUNDARY.refuses("the same version", Boundary.ARGUMENT, Schools::busy, x -> x.merge(4, 4));
        BOUNDARY.refuses("weight -1", Boundary.ARGUMENT, Schools::busy, x -> x.setWeight(0, -1));
        BOUNDARY.refuses("weight 51", Boundary.ARGUMENT, Schools::busy, x -> x.setWeight(0, 51));
        BOUNDARY.refuses("pass mark -1", Boundary.ARGUMENT, Schools::busy, x -> x.setPass(-1));
        BOUNDARY.refuses("pass mark 101", Boundary.ARGUMENT, Schools::busy, x -> x.setPass(101));
        BOUNDARY.refuses("30 versions", Boundary.STATE, Schools::full, x -> x.begin(1));
        BOUNDARY.refuses("unchangeable", Boundary.STATE, Schools::busy, x -> x.setNote(0, 0, 0, 1));
        BOUNDARY.refuses("no base", Boundary.STATE, Schools::busy, x -> x.conflicts(3, 4));
        BOUNDARY.refuses("20 copies", Boundary.STATE, Schools::full, x -> x.print(0, 0));
        BOUNDARY.refuses("not as many bars", Boundary.STATE, Schools::busy, x -> x.slip(0, 6));
    }

    private static void outOfBounds(String what, ToDoubleFunction<HarmoniumDesk> call) {
        BOUNDARY.refuses(what, Boundary.BOUNDS, Schools::busy, call);
    }

    private static void theLastOfAllExists() {
        BOUNDARY.sentence("Terms", "for a version, voice, bar, rule or copy that does not exist");
        Consumer<HarmoniumDesk> versions = Schools.withVersions(30);
        BOUNDARY.answers("setNote", 20, versions, x -> x.setNote(29, 1, 3, 1));
        BOUNDARY.answers("note", 20, versions, x -> x.note(29, 1, 3));
        BOUNDARY.answers("base", -1, versions, x -> x.base(29, 28));
        BOUNDARY.answers("conflicts", 0, versions, x -> x.conflicts(29, 29));
        BOUNDARY.answers("faults", 1, versions, x -> x.faults(29, 3, 5));
        BOUNDARY.answers("mark", 81, versions, x -> x.mark(29));
        BOUNDARY.answers("handIn", 1, versions, x -> x.handIn(29) ? 1 : 0);
        BOUNDARY.answers("best", 13, versions, x -> x.best(29, 1, 3));
        BOUNDARY.answers("movement", 6, versions, x -> x.movement(29, 1));
        BOUNDARY.answers("print", 2, versions, x -> x.print(29, 1));
        BOUNDARY.answers("branch", 29, Schools.withVersions(29), x -> x.branch(28));
        BOUNDARY.answers("merge", 29, Schools.withVersions(28).andThen(x -> x.branch(27)), x -> x.merge(27, 28));
        BOUNDARY.answers("errata", 8, Schools::full, x -> x.errata(19, 29));
        BOUNDARY.answers("slip", 1, Schools::full, x -> x.slip(19, 29));
        BOUNDARY.answers("slips", 0, Schools::full, x -> x.slips(19));
        BOUNDARY.answers("setWeight", 7, Schools::full, x -> x.setWeight(5, 1));
    }

    private static void exceptionsGoByTheirOrder() {
        BOUNDARY.sentence("Terms", "If several apply, IndexOutOfBoundsException goes first, then "
                + "IllegalArgumentException.");
        Consumer<HarmoniumDesk> full = Schools.withVersions(30);
        Consumer<HarmoniumDesk> printedOut = Schools.withCopies(20);
        BOUNDARY.refuses("begin: bars, room", Boundary.ARGUMENT, full, x -> x.begin(0));
        BOUNDARY.refuses("branch: version, room", Boundary.BOUNDS, full, x -> x.branch(30));
        BOUNDARY.refuses("setNote: version, note", Boundary.BOUNDS, full, x -> x.setNote(30, 0, 0, -1));
        BOUNDARY.refuses("setNote: voice, note", Boundary.BOUNDS, full, x -> x.setNote(29, 2, 0, -1));
        BOUNDARY.refuses("setNote: bar, note", Boundary.BOUNDS, full, x -> x.setNote(29, 0, 4, 41));
        BOUNDARY.refuses("setNote: voice, unchangeable", Boundary.BOUNDS, full, x -> x.setNote(0, 2, 0, 1));
        BOUNDARY.refuses("setNote: bar, unchangeable", Boundary.BOUNDS, full, x -> x.setNote(0, 0, -1, 1));
        BOUNDARY.refuses("setNote: note, unchangeable", Boundary.ARGUMENT, full, x -> x.setNote(0, 0, 0, 41));
        BOUNDARY.refuses("setNote: all three", Boundary.BOUNDS, full, x -> x.setNote(0, 2, 4, 41));
        BOUNDARY.refuses("conflicts: version, base", Boundary.BOUNDS, full, x -> x.conflicts(30, 4));
        BOUNDARY.refuses("merge: version, the same", Boundary.BOUNDS, full, x -> x.merge(-1, -1));
        BOUNDARY.refuses("merge: version, room", Boundary.BOUNDS, full, x -> x.merge(0, 30));
        BOUNDARY.refuses("merge: the same, room", Boundary.ARGUMENT, full, x -> x.merge(4, 4));
        BOUNDARY.refuses("setWeight: rule, weight", Boundary.BOUNDS, full, x -> x.setWeight(6, 51));
        BOUNDARY.refuses("print: version, room", Boundary.BOUNDS, printedOut, x -> x.print(7, 0));
        BOUNDARY.refuses("print: voice, room", Boundary.BOUNDS, printedOut, x -> x.print(4, 2));
        BOUNDARY.refuses("errata: copy, bars", Boundary.BOUNDS, printedOut, x -> x.errata(20, 5));
        BOUNDARY.refuses("slip: copy, bars", Boundary.BOUNDS, printedOut, x -> x.slip(20, 5));
    }

    private static void refusedCallsChangeNothing() {
        BOUNDARY.sentence("Terms", "A call that throws an exception changes nothing.");
        BOUNDARY.refuses("begin, bars", Boundary.ARGUMENT, Schools::busy, x -> x.begin(13));
        BOUNDARY.refuses("begin, room", Boundary.STATE, Schools::full, x -> x.begin(4));
        BOUNDARY.refuses("branch, version", Boundary.BOUNDS, Schools::busy, x -> x.branch(7));
        BOUNDARY.refuses("branch, room", Boundary.STATE, Schools::full, x -> x.branch(4));
        BOUNDARY.refuses("setNote, note", Boundary.ARGUMENT, Schools::busy, x -> x.setNote(4, 0, 0, 41));
        BOUNDARY.refuses("setNote, place", Boundary.BOUNDS, Schools::busy, x -> x.setNote(4, 0, 4, 40));
        BOUNDARY.refuses("setNote, unchangeable", Boundary.STATE, Schools::busy, x -> x.setNote(0, 0, 0, 40));
        BOUNDARY.refuses("merge, version", Boundary.BOUNDS, Schools::busy, x -> x.merge(4, 7));
        BOUNDARY.refuses("merge, the same", Boundary.ARGUMENT, Schools::busy, x -> x.merge(4, 4));
        BOUNDARY.refuses("merge, base", Boundary.STATE, Schools::busy, x -> x.merge(3, 4));
        BOUNDARY.refuses("merge, room", Boundary.STATE, Schools::full, x -> x.merge(3, 0));
        BOUNDARY.refuses("setWeight, rule", Boundary.BOUNDS, Schools::busy, x -> x.setWeight(6, 1));
        BOUNDARY.refuses("setWeight, weight", Boundary.ARGUMENT, Schools::busy, x -> x.setWeight(5, 51));
        BOUNDARY.refuses("setPass, mark", Boundary.ARGUMENT, Schools::busy, x -> x.setPass(101));
        BOUNDARY.refuses("handIn, version", Boundary.BOUNDS, Schools::busy, x -> x.handIn(7) ? 1 : 0);
        BOUNDARY.refuses("best, voice", Boundary.BOUNDS, Schools::busy, x -> x.best(4, 2, 0));
        BOUNDARY.refuses("print, voice", Boundary.BOUNDS, Schools::busy, x -> x.print(4, 2));
        BOUNDARY.refuses("print, room", Boundary.STATE, Schools::full, x -> x.print(4, 0));
        BOUNDARY.refuses("slip, version", Boundary.BOUNDS, Schools::busy, x -> x.slip(0, 7));
        BOUNDARY.refuses("slip, bars", Boundary.STATE, Schools::busy, x -> x.slip(0, 6));
    }
}
