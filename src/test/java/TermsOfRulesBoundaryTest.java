import java.util.function.Consumer;
import java.util.function.ToDoubleFunction;

/** The boundary cases of rules and marks that the document's Terms name, each sentence by itself. */
public final class TermsOfRulesBoundaryTest {
    private static final Boundary BOUNDARY = new Boundary("");
    private static final int DISCORD = 0;
    private static final int PARALLELS = 1;
    private static final int LEAPS = 2;
    private static final int CROSSING = 3;
    private static final int ENDS = 4;
    private static final int STANDING = 5;

    public static void main(String[] args) {
        rulesAre0To5();
        intervalsGoRoundAt12();
        discord();
        parallels();
        leaps();
        crossing();
        ends();
        standing();
        weightsAre5AtFirst();
        marksAre0AtLeast();
        marksPassAtThePassMark();
        BOUNDARY.finish();
    }

    private static void rulesAre0To5() {
        BOUNDARY.sentence("Terms", "Rules are 0 to 5.");
        for (int rule = 0; rule <= 5; rule++) {
            int each = rule;
            BOUNDARY.answers("faults of rule " + rule, 0, Schools.oneScore(1), x -> x.faults(0, 0, each));
            BOUNDARY.answers("weight of rule " + rule, 5, Schools::empty, x -> x.setWeight(each, 0));
        }
        for (int rule : new int[] {-1, 6}) {
            BOUNDARY.refuses("faults of rule " + rule, Boundary.BOUNDS, Schools.oneScore(1), x -> x.faults(0, 0, rule));
            BOUNDARY.refuses("weight of rule " + rule, Boundary.BOUNDS, Schools::empty, x -> x.setWeight(rule, 0));
        }
    }

    private static void intervalsGoRoundAt12() {
        BOUNDARY.sentence("Terms", "the distance at a bar is the upper note less the lower one, and the interval is "
                + "the remainder of its size, without sign, by 12");
        int[] good = {0, 7, 12, 19, 24, 31, 36};
        int[] bad = {11, 13, 23, 25, 35, 37, 6, 8, 18, 20, 30, 32, 40};
        for (int size : good) {
            BOUNDARY.answers("above by " + size, 0, oneBar(size, 0), x -> x.faults(0, 0, ENDS));
            BOUNDARY.answers("below by " + size, 0, oneBar(0, size), x -> x.faults(0, 0, ENDS));
        }
        for (int size : bad) {
            BOUNDARY.answers("above by " + size, 2, oneBar(size, 0), x -> x.faults(0, 0, ENDS));
            BOUNDARY.answers("below by " + size, 2, oneBar(0, size), x -> x.faults(0, 0, ENDS));
        }
    }

    private static Consumer<HarmoniumDesk> oneBar(int upper, int lower) {
        return Schools.score(new int[] {upper}, new int[] {lower});
    }

    private static void discord() {
        BOUNDARY.sentence("Terms", "0, discord: 1 if the interval is 1, 2, 5, 6, 10 or 11.");
        int[] due = {0, 1, 1, 0, 0, 1, 1, 0, 0, 0, 1, 1};
        for (int size = 0; size <= 40; size++) {
            BOUNDARY.answers("above by " + size, due[size % 12], oneBar(size, 0), x -> x.faults(0, 0, DISCORD));
            BOUNDARY.answers("below by " + size, due[size % 12], oneBar(40 - size, 40), x -> x.faults(0, 0, DISCORD));
        }
    }

    /** How many faults the rule finds at bar 1 of these notes: both of the first bar, then both of the second. */
    private static void atBar1(String what, int rule, double due, int... notes) {
        BOUNDARY.answers(what, due, Schools.score(new int[] {notes[0], notes[2]}, new int[] {notes[1], notes[3]}),
                x -> x.faults(0, 1, rule));
    }

    private static void parallels() {
        BOUNDARY.sentence("Terms", "1, parallels: 1 if there is a bar before, both notes are other ones there, the "
                + "interval there is the same, and it is 0 or 7.");
        BOUNDARY.answers("no bar before a unison", 0, oneBar(20, 20), x -> x.faults(0, 0, PARALLELS));
        BOUNDARY.answers("no bar before note 0", 0, oneBar(0, 0), x -> x.faults(0, 0, PARALLELS));
        BOUNDARY.answers("no bar before a fifth", 0, oneBar(27, 20), x -> x.faults(0, 0, PARALLELS));
        atBar1("unisons", PARALLELS, 1, 20, 20, 21, 21);
        atBar1("fifths", PARALLELS, 1, 27, 20, 26, 19);
        atBar1("unison and three octaves", PARALLELS, 1, 20, 20, 36, 0);
        atBar1("fifth above and below", PARALLELS, 1, 27, 20, 20, 27);
        atBar1("the same unison", PARALLELS, 0, 20, 20, 20, 20);
        atBar1("upper note the same", PARALLELS, 0, 32, 20, 32, 8);
        atBar1("lower note the same", PARALLELS, 0, 20, 20, 32, 20);
        atBar1("unison and fifth", PARALLELS, 0, 20, 20, 26, 19);
        atBar1("fifth and unison", PARALLELS, 0, 27, 20, 21, 21);
        for (int interval : new int[] {1, 2, 3, 4, 5, 6, 8, 9, 10, 11}) {
            atBar1("interval " + interval, PARALLELS, 0, 20 + interval, 20, 21 + interval, 21);
        }
        int[] notes = {1, 2, 3, 4, 5, 6, 7, 8, 9, 10, 11, 12};
        BOUNDARY.answers("at the last of 12", 1, Schools.score(notes, notes), x -> x.faults(0, 11, PARALLELS));
    }

    private static void leaps() {
        BOUNDARY.sentence("Terms", "2, leaps: 1 for each voice that has a note in the bar before from which this one "
                + "is more than 9 away.");
        BOUNDARY.answers("no bar before", 0, oneBar(40, 0), x -> x.faults(0, 0, LEAPS));
        atBar1("upper 9 up", LEAPS, 0, 20, 20, 29, 20);
        atBar1("upper 10 up", LEAPS, 1, 20, 20, 30, 20);
        atBar1("upper 9 down", LEAPS, 0, 20, 20, 11, 20);
        atBar1("upper 10 down", LEAPS, 1, 20, 20, 10, 20);
        atBar1("lower 9 up", LEAPS, 0, 20, 20, 20, 29);
        atBar1("lower 10 up", LEAPS, 1, 20, 20, 20, 30);
        atBar1("lower 9 down", LEAPS, 0, 20, 20, 20, 11);
        atBar1("lower 10 down", LEAPS, 1, 20, 20, 20, 10);
        atBar1("both 10", LEAPS, 2, 20, 20, 30, 10);
        atBar1("both 9", LEAPS, 0, 20, 20, 11, 29);
        atBar1("both as far as can be", LEAPS, 2, 0, 40, 40, 0);
        BOUNDARY.answers("at the last of 12", 1, Schools.oneScore(12).andThen(x -> x.setNote(0, 0, 11, 40)),
                x -> x.faults(0, 11, LEAPS));
    }

    private static void crossing() {
        BOUNDARY.sentence("Terms", "3, crossing: 1 if the upper note is lower than the lower one.");
        BOUNDARY.answers("lower by 1", 1, oneBar(19, 20), x -> x.faults(0, 0, CROSSING));
        BOUNDARY.answers("the same", 0, oneBar(20, 20), x -> x.faults(0, 0, CROSSING));
        BOUNDARY.answers("higher by 1", 0, oneBar(21, 20), x -> x.faults(0, 0, CROSSING));
        BOUNDARY.answers("lower by 12", 1, oneBar(8, 20), x -> x.faults(0, 0, CROSSING));
        BOUNDARY.answers("lower by 40", 1, oneBar(0, 40), x -> x.faults(0, 0, CROSSING));
        BOUNDARY.answers("higher by 40", 0, oneBar(40, 0), x -> x.faults(0, 0, CROSSING));
    }

    private static void ends() {
        BOUNDARY.sentence("Terms", "4, ends: 1 at the first bar and 1 at the last one (2 if it is the same one), "
                + "each if the interval is neither 0 nor 7.");
        for (int interval = 0; interval < 12; interval++) {
            int fault = interval == 0 || interval == 7 ? 0 : 1;
            int upper = 20 + interval;
            String what = "interval " + interval;
            BOUNDARY.answers(what + ", the only bar", 2 * fault, oneBar(upper, 20), x -> x.faults(0, 0, ENDS));
            Consumer<HarmoniumDesk> two = Schools.score(new int[] {upper, 20}, new int[] {20, 20});
            BOUNDARY.answers(what + ", first of two", fault, two, x -> x.faults(0, 0, ENDS));
            BOUNDARY.answers(what + ", not the last of two", 0, two, x -> x.faults(0, 1, ENDS));
            Consumer<HarmoniumDesk> three = Schools.score(new int[] {20, upper, upper}, new int[] {20, 20, 20});
            BOUNDARY.answers(what + ", not the first of three", 0, three, x -> x.faults(0, 0, ENDS));
            BOUNDARY.answers(what + ", between", 0, three, x -> x.faults(0, 1, ENDS));
            BOUNDARY.answers(what + ", last of three", fault, three, x -> x.faults(0, 2, ENDS));
        }
        BOUNDARY.answers("last of 12", 1, Schools.oneScore(12).andThen(x -> x.setNote(0, 0, 11, 21)),
                x -> x.faults(0, 11, ENDS));
    }

    private static void standing() {
        BOUNDARY.sentence("Terms", "5, standing: 1 if there are two bars before, and the upper note is the same in "
                + "all three.");
        for (int bar = 0; bar < 12; bar++) {
            int each = bar;
            BOUNDARY.answers("bar " + bar + " of 12", bar < 2 ? 0 : 1, Schools.oneScore(12),
                    x -> x.faults(0, each, STANDING));
        }
        int[] lower = {1, 2, 3};
        int[] same = {9, 9, 9};
        ToDoubleFunction<HarmoniumDesk> atBar2 = x -> x.faults(0, 2, STANDING);
        BOUNDARY.answers("all three", 1, Schools.score(same, lower), atBar2);
        BOUNDARY.answers("two before are other", 0, Schools.score(new int[] {8, 9, 9}, lower), atBar2);
        BOUNDARY.answers("one before is other", 0, Schools.score(new int[] {9, 8, 9}, lower), atBar2);
        BOUNDARY.answers("this one is other", 0, Schools.score(new int[] {9, 9, 8}, lower), atBar2);
        BOUNDARY.answers("the lower one does not count", 0, Schools.score(lower, same), atBar2);
        int[] lowest = {0, 0, 0};
        BOUNDARY.answers("note 0, no bar before", 0, Schools.score(lowest, lower), x -> x.faults(0, 0, STANDING));
        BOUNDARY.answers("note 0, one bar before", 0, Schools.score(lowest, lower), x -> x.faults(0, 1, STANDING));
        BOUNDARY.answers("note 0, two bars before", 1, Schools.score(lowest, lower), atBar2);
        BOUNDARY.answers("one bar", 0, Schools.oneScore(1), x -> x.faults(0, 0, STANDING));
        BOUNDARY.answers("two bars", 0, Schools.oneScore(2), x -> x.faults(0, 1, STANDING));
    }

    private static void weightsAre5AtFirst() {
        BOUNDARY.sentence("Terms", "Each rule has a weight, 5 at first.");
        for (int rule = 0; rule <= 5; rule++) {
            int each = rule;
            BOUNDARY.answers("of rule " + rule, 5, Schools::empty, x -> x.setWeight(each, 0));
        }
        marked("a discord", 95, new int[] {20, 21, 20}, new int[] {20, 20, 20});
        marked("a parallel", 95, new int[] {20, 21}, new int[] {20, 21});
        marked("two leaps", 90, new int[] {20, 33}, new int[] {20, 2});
        marked("a crossing", 95, new int[] {13}, new int[] {20});
        marked("a bad end", 95, new int[] {20, 23}, new int[] {20, 20});
        marked("a standing note", 95, new int[] {20, 20, 20}, new int[] {20, 20, 20});
    }

    private static void marked(String what, double due, int[] upper, int[] lower) {
        BOUNDARY.answers("the mark with " + what, due, Schools.score(upper, lower), x -> x.mark(0));
    }

    private static void marksAre0AtLeast() {
        BOUNDARY.sentence("Terms", "The mark of a version is 100 less, for each rule, its weight times all its "
                + "faults, but 0 at least.");
        tenFaults("0 less", 100, 0);
        tenFaults("90 less", 10, 9);
        tenFaults("100 less", 0, 10);
        tenFaults("110 less", 0, 11);
        tenFaults("500 less", 0, 50);
        BOUNDARY.answers("two rules together", 1, Schools.score(new int[] {23}, new int[] {24})
                .andThen(x -> x.setWeight(DISCORD, 33)).andThen(x -> x.setWeight(CROSSING, 34))
                .andThen(x -> x.setWeight(ENDS, 16)), x -> x.mark(0));
    }

    private static void tenFaults(String what, int due, int weight) {
        BOUNDARY.answers(what, due, Schools.oneScore(12).andThen(x -> x.setWeight(STANDING, weight)), x -> x.mark(0));
    }

    private static void marksPassAtThePassMark() {
        BOUNDARY.sentence("Terms", "A version passes if its mark is at least the pass mark, 60 at first.");
        BOUNDARY.answers("60 at first", 1, Schools.oneScore(10), x -> x.handIn(0) ? 1 : 0);
        BOUNDARY.answers("59 at first", 0, TermsOfRulesBoundaryTest::markOf59, x -> x.handIn(0) ? 1 : 0);
        BOUNDARY.answers("59 at 59", 1, x -> {
            markOf59(x);
            x.setPass(59);
        }, x -> x.handIn(0) ? 1 : 0);
        BOUNDARY.answers("60 is not fallen at 60", 0, handedInThenPass(60), HarmoniumDesk::fallen);
        BOUNDARY.answers("60 is fallen at 61", 1, handedInThenPass(61), HarmoniumDesk::fallen);
    }

    /** One fault of weight 41. */
    private static void markOf59(HarmoniumDesk x) {
        x.begin(3);
        x.setWeight(STANDING, 41);
    }

    private static Consumer<HarmoniumDesk> handedInThenPass(int passMark) {
        return x -> {
            x.begin(10);
            x.handIn(0);
            x.setPass(passMark);
        };
    }
}
