/** Promises 1 to 8: a new object, begin, branch, setNote, note, base, conflicts, merge. */
public final class VersionsTest {
    private static final Expect EXPECT = new Expect();

    public static void main(String[] args) {
        newObject();
        begin();
        beginIsRefused();
        branch();
        branchIsRefused();
        setNote();
        setNoteIsRefused();
        whatMakesAVersionFixed();
        note();
        base();
        conflicts();
        merge();
        mergeIsRefused();
        EXPECT.finish();
    }

    private static void newObject() {
        HarmoniumDesk x = new HarmoniumDesk();
        EXPECT.refuses("note of no version", Expect.BOUNDS, () -> x.note(0, 0, 0));
        EXPECT.refuses("mark of no version", Expect.BOUNDS, () -> x.mark(0));
        EXPECT.refuses("slips of no copy", Expect.BOUNDS, () -> x.slips(0));
        EXPECT.answers("fallen of none", 0, x::fallen);
        EXPECT.answers("pass mark at first", 60, () -> x.setPass(60));
        for (int rule = 0; rule < 6; rule++) {
            int each = rule;
            EXPECT.answers("weight at first of rule " + rule, 5, () -> x.setWeight(each, 5));
        }
        HarmoniumDesk y = new HarmoniumDesk();
        y.begin(3);
        EXPECT.answers("objects stand apart", 0, () -> x.begin(4));
    }

    private static void begin() {
        for (int bars = 1; bars <= 12; bars++) {
            int each = bars;
            HarmoniumDesk x = new HarmoniumDesk();
            EXPECT.answers("begin(" + bars + ")", 0, () -> x.begin(each));
            for (int bar = 0; bar < bars; bar++) {
                int at = bar;
                EXPECT.answers("upper note at first", 20, () -> x.note(0, 0, at));
                EXPECT.answers("lower note at first", 20, () -> x.note(0, 1, at));
            }
            EXPECT.refuses("note behind the last bar", Expect.BOUNDS, () -> x.note(0, 0, each));
            EXPECT.answers("second begin", 1, () -> x.begin(each));
        }
    }

    private static void beginIsRefused() {
        HarmoniumDesk x = new HarmoniumDesk();
        for (int bars : new int[] {0, -1, 13, Integer.MIN_VALUE, Integer.MAX_VALUE}) {
            EXPECT.refuses("begin(" + bars + ")", Expect.ARGUMENT, () -> x.begin(bars));
        }
        for (int number = 0; number < 30; number++) {
            EXPECT.answers("begin after refusals", number, () -> x.begin(2));
        }
        EXPECT.refuses("begin with 30 versions", Expect.STATE, () -> x.begin(2));
        EXPECT.refuses("wrong begin with 30 versions", Expect.ARGUMENT, () -> x.begin(13));
        EXPECT.answers("note of the last version", 20, () -> x.note(29, 1, 1));
        EXPECT.refuses("note of version 30", Expect.BOUNDS, () -> x.note(30, 0, 0));
    }

    private static void branch() {
        HarmoniumDesk x = new HarmoniumDesk();
        x.begin(12);
        x.setNote(0, 0, 11, 33);
        x.setNote(0, 1, 0, 7);
        EXPECT.answers("branch(0)", 1, () -> x.branch(0));
        EXPECT.answers("upper note is taken", 33, () -> x.note(1, 0, 11));
        EXPECT.answers("lower note is taken", 7, () -> x.note(1, 1, 0));
        EXPECT.answers("other note is taken", 20, () -> x.note(1, 1, 11));
        EXPECT.refuses("the branch has 12 bars", Expect.BOUNDS, () -> x.note(1, 0, 12));
        EXPECT.answers("setNote of the branch", 33, () -> x.setNote(1, 0, 11, 5));
        EXPECT.answers("the parent keeps its note", 33, () -> x.note(0, 0, 11));
        EXPECT.answers("branch(0) again", 2, () -> x.branch(0));
        EXPECT.answers("parent's note again", 33, () -> x.note(2, 0, 11));
    }

    private static void branchIsRefused() {
        HarmoniumDesk x = new HarmoniumDesk();
        x.begin(1);
        for (int version : new int[] {-1, 1, 30, Integer.MIN_VALUE, Integer.MAX_VALUE}) {
            EXPECT.refuses("branch(" + version + ")", Expect.BOUNDS, () -> x.branch(version));
        }
        for (int number = 1; number < 30; number++) {
            EXPECT.answers("begin", number, () -> x.begin(1));
        }
        EXPECT.refuses("branch with 30 versions", Expect.STATE, () -> x.branch(4));
        EXPECT.refuses("wrong branch with 30 versions", Expect.BOUNDS, () -> x.branch(30));
        EXPECT.answers("a refused branch fixes nothing", 20, () -> x.setNote(4, 0, 0, 1));
    }

    private static void setNote() {
        HarmoniumDesk x = new HarmoniumDesk();
        x.begin(2);
        x.begin(2);
        EXPECT.answers("setNote", 20, () -> x.setNote(0, 0, 1, 40));
        EXPECT.answers("setNote again", 40, () -> x.setNote(0, 0, 1, 0));
        EXPECT.answers("setNote to the same", 0, () -> x.setNote(0, 0, 1, 0));
        EXPECT.answers("note set", 0, () -> x.note(0, 0, 1));
        EXPECT.answers("other voice", 20, () -> x.note(0, 1, 1));
        EXPECT.answers("other bar", 20, () -> x.note(0, 0, 0));
        EXPECT.answers("other version", 20, () -> x.note(1, 0, 1));
    }

    private static void setNoteIsRefused() {
        HarmoniumDesk x = new HarmoniumDesk();
        x.begin(3);
        EXPECT.refuses("version -1", Expect.BOUNDS, () -> x.setNote(-1, 0, 0, 1));
        EXPECT.refuses("version 1", Expect.BOUNDS, () -> x.setNote(1, 0, 0, 1));
        EXPECT.refuses("voice -1", Expect.BOUNDS, () -> x.setNote(0, -1, 0, 1));
        EXPECT.refuses("voice 2", Expect.BOUNDS, () -> x.setNote(0, 2, 0, 1));
        EXPECT.refuses("bar -1", Expect.BOUNDS, () -> x.setNote(0, 0, -1, 1));
        EXPECT.refuses("bar 3", Expect.BOUNDS, () -> x.setNote(0, 0, 3, 1));
        EXPECT.refuses("note -1", Expect.ARGUMENT, () -> x.setNote(0, 0, 0, -1));
        EXPECT.refuses("note 41", Expect.ARGUMENT, () -> x.setNote(0, 0, 0, 41));
        EXPECT.refuses("version and note", Expect.BOUNDS, () -> x.setNote(1, 0, 0, 41));
        EXPECT.refuses("voice and note", Expect.BOUNDS, () -> x.setNote(0, 2, 0, 41));
        EXPECT.refuses("bar and note", Expect.BOUNDS, () -> x.setNote(0, 0, 3, -1));
        EXPECT.answers("nothing is changed", 20, () -> x.note(0, 0, 0));
        x.branch(0);
        EXPECT.refuses("fixed", Expect.STATE, () -> x.setNote(0, 0, 0, 1));
        EXPECT.refuses("fixed, the same note", Expect.STATE, () -> x.setNote(0, 0, 0, 20));
        EXPECT.refuses("fixed, and note", Expect.ARGUMENT, () -> x.setNote(0, 0, 0, 41));
        EXPECT.refuses("fixed, and bar", Expect.BOUNDS, () -> x.setNote(0, 0, 3, 41));
        EXPECT.answers("nothing is changed when fixed", 20, () -> x.note(0, 0, 0));
    }

    private static void whatMakesAVersionFixed() {
        HarmoniumDesk x = new HarmoniumDesk();
        x.begin(2);
        x.branch(0);
        x.branch(0);
        EXPECT.refuses("a branched version", Expect.STATE, () -> x.setNote(0, 0, 0, 1));
        EXPECT.answers("a branch", 20, () -> x.setNote(1, 0, 0, 1));
        x.base(1, 2);
        x.conflicts(1, 2);
        x.handIn(1);
        x.best(1, 0, 0);
        EXPECT.answers("asking fixes nothing", 1, () -> x.setNote(1, 0, 0, 2));
        x.merge(1, 2);
        EXPECT.refuses("merged as the first one", Expect.STATE, () -> x.setNote(1, 0, 0, 1));
        EXPECT.refuses("merged as the other one", Expect.STATE, () -> x.setNote(2, 0, 0, 1));
        EXPECT.answers("the merged version itself", 2, () -> x.setNote(3, 0, 0, 9));
        x.begin(2);
        x.print(3, 0);
        EXPECT.refuses("a printed version, voice printed", Expect.STATE, () -> x.setNote(3, 0, 0, 1));
        EXPECT.refuses("a printed version, other voice", Expect.STATE, () -> x.setNote(3, 1, 0, 1));
        x.slip(0, 4);
        x.errata(0, 4);
        EXPECT.answers("a version for slips", 20, () -> x.setNote(4, 0, 0, 1));
    }

    private static void note() {
        HarmoniumDesk x = new HarmoniumDesk();
        x.begin(4);
        for (int bar = 0; bar < 4; bar++) {
            x.setNote(0, 0, bar, 10 + bar);
            x.setNote(0, 1, bar, 30 + bar);
        }
        for (int bar = 0; bar < 4; bar++) {
            int at = bar;
            EXPECT.answers("upper note " + bar, 10 + bar, () -> x.note(0, 0, at));
            EXPECT.answers("lower note " + bar, 30 + bar, () -> x.note(0, 1, at));
        }
        for (int wrong : new int[] {-1, 4, 12, Integer.MIN_VALUE, Integer.MAX_VALUE}) {
            EXPECT.refuses("version " + wrong, Expect.BOUNDS, () -> x.note(wrong, 0, 0));
            EXPECT.refuses("voice " + wrong, Expect.BOUNDS, () -> x.note(0, wrong, 0));
            EXPECT.refuses("bar " + wrong, Expect.BOUNDS, () -> x.note(0, 0, wrong));
        }
        EXPECT.refuses("voice 2", Expect.BOUNDS, () -> x.note(0, 2, 0));
        EXPECT.refuses("version 1", Expect.BOUNDS, () -> x.note(1, 0, 0));
    }

    private static void base() {
        HarmoniumDesk x = new HarmoniumDesk();
        x.begin(2); // 0
        x.branch(0); // 1
        x.branch(0); // 2
        x.branch(1); // 3
        x.begin(2); // 4
        x.merge(2, 3); // 5, the parent of which is 2 alone
        x.branch(3); // 6
        int[][] due = {
            {0, 0, 0}, {3, 3, 3}, {4, 4, 4}, {1, 2, 0}, {3, 2, 0}, {2, 3, 0}, {1, 3, 1}, {3, 1, 1},
            {0, 4, -1}, {4, 3, -1}, {5, 2, 2}, {2, 5, 2}, {5, 3, 0}, {3, 5, 0}, {6, 5, 0}, {6, 1, 1}, {6, 3, 3},
        };
        for (int[] row : due) {
            EXPECT.answers("base(" + row[0] + ", " + row[1] + ")", row[2], () -> x.base(row[0], row[1]));
        }
        EXPECT.refuses("base(7, 0)", Expect.BOUNDS, () -> x.base(7, 0));
        EXPECT.refuses("base(0, 7)", Expect.BOUNDS, () -> x.base(0, 7));
        EXPECT.refuses("base(-1, 0)", Expect.BOUNDS, () -> x.base(-1, 0));
        EXPECT.refuses("base(0, -1)", Expect.BOUNDS, () -> x.base(0, -1));
    }

    /** Bars 0 to 6 hold one case of merging each; version 1 is the first one, 2 the other one. */
    private static HarmoniumDesk twoBranches() {
        HarmoniumDesk x = new HarmoniumDesk();
        x.begin(8);
        x.branch(0);
        x.branch(0);
        x.setNote(1, 0, 1, 21); // changed in the first one
        x.setNote(2, 1, 2, 22); // changed in the other one
        x.setNote(1, 0, 3, 23); // changed in both, to the same
        x.setNote(2, 0, 3, 23);
        x.setNote(1, 0, 4, 24); // changed in both, in one voice
        x.setNote(2, 0, 4, 25);
        x.setNote(1, 0, 5, 26); // changed in both, each in its voice
        x.setNote(2, 1, 5, 27);
        x.setNote(1, 1, 6, 28); // changed and changed back in the first one
        x.setNote(1, 1, 6, 20);
        x.setNote(2, 0, 6, 29);
        x.setNote(1, 0, 7, 30); // one note changed to the same in both, one changed in one of them
        x.setNote(2, 0, 7, 30);
        x.setNote(2, 1, 7, 31);
        return x;
    }

    private static void conflicts() {
        HarmoniumDesk x = twoBranches();
        EXPECT.answers("conflicts(1, 2)", (1 << 4) + (1 << 5) + (1 << 7), () -> x.conflicts(1, 2));
        EXPECT.answers("conflicts(2, 1)", (1 << 4) + (1 << 5) + (1 << 7), () -> x.conflicts(2, 1));
        EXPECT.answers("conflicts(1, 1)", 0, () -> x.conflicts(1, 1));
        EXPECT.answers("conflicts(0, 2)", 0, () -> x.conflicts(0, 2));
        EXPECT.answers("conflicts(2, 0)", 0, () -> x.conflicts(2, 0));
        x.begin(8);
        EXPECT.refuses("conflicts without a base", Expect.STATE, () -> x.conflicts(1, 3));
        EXPECT.refuses("conflicts(4, 1)", Expect.BOUNDS, () -> x.conflicts(4, 1));
        EXPECT.refuses("conflicts(1, 4)", Expect.BOUNDS, () -> x.conflicts(1, 4));
        EXPECT.refuses("conflicts(-1, 3)", Expect.BOUNDS, () -> x.conflicts(-1, 3));
        EXPECT.refuses("conflicts(3, -1)", Expect.BOUNDS, () -> x.conflicts(3, -1));
        EXPECT.answers("conflicts make no version", 4, () -> x.begin(1));
        HarmoniumDesk y = new HarmoniumDesk();
        y.begin(12);
        y.branch(0);
        y.branch(0);
        for (int bar = 0; bar < 12; bar++) {
            y.setNote(1, 0, bar, 1);
            y.setNote(2, 0, bar, 2);
        }
        EXPECT.answers("conflicts in all of 12 bars", 4095, () -> y.conflicts(1, 2));
    }

    private static void merge() {
        HarmoniumDesk x = twoBranches();
        EXPECT.answers("merge(1, 2)", 3, () -> x.merge(1, 2));
        EXPECT.answers("merge(2, 1)", 4, () -> x.merge(2, 1));
        int[][] firstWins = {{20, 20}, {21, 20}, {20, 22}, {23, 20}, {24, 20}, {26, 20}, {29, 20}, {30, 20}};
        int[][] otherWins = {{20, 20}, {21, 20}, {20, 22}, {23, 20}, {25, 20}, {20, 27}, {29, 20}, {30, 31}};
        for (int bar = 0; bar < 8; bar++) {
            for (int voice = 0; voice < 2; voice++) {
                int b = bar;
                int v = voice;
                EXPECT.answers("merge(1, 2) at " + b + ", " + v, firstWins[b][v], () -> x.note(3, v, b));
                EXPECT.answers("merge(2, 1) at " + b + ", " + v, otherWins[b][v], () -> x.note(4, v, b));
            }
        }
        EXPECT.refuses("a merged version has 8 bars", Expect.BOUNDS, () -> x.note(3, 0, 8));
        EXPECT.answers("the parent of a merged version", 1, () -> x.base(3, 1));
        EXPECT.answers("the other one is no parent", 0, () -> x.base(3, 2));
        EXPECT.answers("the parent the other way", 2, () -> x.base(4, 2));
        EXPECT.answers("merging with an ancestor", 5, () -> x.merge(3, 1));
        EXPECT.answers("it keeps the later note", 29, () -> x.note(5, 0, 6));
        EXPECT.answers("merging an ancestor with a later one", 6, () -> x.merge(0, 1));
        EXPECT.answers("it takes the later note", 21, () -> x.note(6, 0, 1));
        HarmoniumDesk y = new HarmoniumDesk();
        y.begin(12);
        y.branch(0);
        y.branch(0);
        y.setNote(2, 0, 0, 1);
        y.setNote(2, 1, 11, 2);
        y.merge(1, 2);
        EXPECT.answers("the first bar of the other one", 1, () -> y.note(3, 0, 0));
        EXPECT.answers("the last bar of the other one", 2, () -> y.note(3, 1, 11));
    }

    private static void mergeIsRefused() {
        HarmoniumDesk x = new HarmoniumDesk();
        x.begin(2);
        x.begin(2);
        x.begin(3);
        EXPECT.refuses("merge(3, 0)", Expect.BOUNDS, () -> x.merge(3, 0));
        EXPECT.refuses("merge(0, 3)", Expect.BOUNDS, () -> x.merge(0, 3));
        EXPECT.refuses("merge(-1, -1)", Expect.BOUNDS, () -> x.merge(-1, -1));
        EXPECT.refuses("merge(3, 3)", Expect.BOUNDS, () -> x.merge(3, 3));
        EXPECT.refuses("merge(1, 1)", Expect.ARGUMENT, () -> x.merge(1, 1));
        EXPECT.refuses("merge without a base", Expect.STATE, () -> x.merge(0, 1));
        EXPECT.refuses("merge without a base, other bars", Expect.STATE, () -> x.merge(0, 2));
        EXPECT.answers("the first one is not fixed", 20, () -> x.setNote(0, 0, 0, 1));
        EXPECT.answers("the other one is not fixed", 20, () -> x.setNote(1, 0, 0, 1));
        EXPECT.answers("a refused merge makes no version", 3, () -> x.branch(0));
        for (int number = 4; number < 30; number++) {
            x.branch(0);
        }
        EXPECT.refuses("merge with 30 versions", Expect.STATE, () -> x.merge(28, 29));
        EXPECT.refuses("merge of the same with 30 versions", Expect.ARGUMENT, () -> x.merge(29, 29));
        EXPECT.refuses("merge of version 30", Expect.BOUNDS, () -> x.merge(29, 30));
        EXPECT.answers("the first one is not fixed at 30", 1, () -> x.setNote(28, 0, 0, 2));
        EXPECT.answers("the other one is not fixed at 30", 1, () -> x.setNote(29, 0, 0, 2));
        EXPECT.answers("conflicts with 30 versions", 0, () -> x.conflicts(28, 29));
    }
}
