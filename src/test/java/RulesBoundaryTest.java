import java.util.function.Consumer;

/** The boundary cases of promises 9 to 16, each sentence of the document by itself. */
public final class RulesBoundaryTest {
    private static final Boundary BOUNDARY = new Boundary("promise ");
    private static final int LEAPS = 2;
    private static final int CROSSING = 3;
    private static final int ENDS = 4;
    private static final int STANDING = 5;

    public static void main(String[] args) {
        setWeightTakesRules0To5();
        setWeightTakes0To50();
        setWeightReturnsTheWeightBefore();
        setWeightRefusesNoSuchRule();
        setWeightRefusesWeightsOutOfRange();
        setPassTakes0To100();
        setPassReturnsThePassMarkBefore();
        setPassRefusesMarksOutOfRange();
        faultsTakeFirstAndLastBar();
        faultsTakeRules0To5();
        faultsAreThereWhateverTheWeight();
        faultsRefuseNoSuchPlaceOrRule();
        markIs0To100();
        markRefusesNoSuchVersion();
        handInIsTrueIfItPasses();
        handInIsKept();
        handInRefusesNoSuchVersion();
        fallenPassedWhenHandedInLast();
        fallenDoNotPassNow();
        fallenAreASet();
        bestTakesBothVoices();
        bestTakesFirstAndLastBar();
        bestIsTheLeastAndTheLowest();
        bestRefusesNoSuchPlace();
        movementTakesBothVoices();
        movementIsAFloatAnd0WithOneBar();
        movementRefusesNoSuchVersionOrVoice();
        BOUNDARY.finish();
    }

    private static void setWeightTakesRules0To5() {
        BOUNDARY.sentence("9", "`rule`: 0 to 5");
        for (int rule = 0; rule <= 5; rule++) {
            for (int looked = 0; looked <= 5; looked++) {
                int set = rule;
                int each = looked;
                BOUNDARY.answers("set " + set + ", looked at " + each, each == set ? 9 : 5,
                        x -> x.setWeight(set, 9), x -> x.setWeight(each, 5));
            }
        }
    }

    private static void setWeightTakes0To50() {
        BOUNDARY.sentence("9", "`weight`: 0 to 50");
        for (int weight = 0; weight <= 50; weight++) {
            int each = weight;
            BOUNDARY.answers("weight " + weight, weight, x -> x.setWeight(0, each), x -> x.setWeight(0, 1));
        }
    }

    private static void setWeightReturnsTheWeightBefore() {
        BOUNDARY.sentence("9", "Returns the weight before.");
        BOUNDARY.answers("5 at first", 5, Schools::empty, x -> x.setWeight(5, 0));
        BOUNDARY.answers("0 before", 0, x -> x.setWeight(5, 0), x -> x.setWeight(5, 50));
        BOUNDARY.answers("50 before", 50, x -> x.setWeight(0, 50), x -> x.setWeight(0, 0));
        BOUNDARY.answers("the same before", 50, x -> x.setWeight(0, 50), x -> x.setWeight(0, 50));
    }

    private static void setWeightRefusesNoSuchRule() {
        BOUNDARY.sentence("9", "Throws `IndexOutOfBoundsException` if there is no such rule");
        for (int rule : Boundary.outside(0, 5)) {
            BOUNDARY.refuses("rule " + rule, Boundary.BOUNDS, Schools::busy, x -> x.setWeight(rule, 6));
            BOUNDARY.refuses("rule " + rule + " goes before 51", Boundary.BOUNDS, Schools::busy,
                    x -> x.setWeight(rule, 51));
            BOUNDARY.refuses("rule " + rule + " goes before -1", Boundary.BOUNDS, Schools::busy,
                    x -> x.setWeight(rule, -1));
        }
    }

    private static void setWeightRefusesWeightsOutOfRange() {
        BOUNDARY.sentence("9", "Throws `IllegalArgumentException` if weight is out of range");
        for (int weight : Boundary.outside(0, 50)) {
            BOUNDARY.refuses("weight " + weight, Boundary.ARGUMENT, Schools::busy, x -> x.setWeight(0, weight));
            BOUNDARY.refuses("last weight " + weight, Boundary.ARGUMENT, Schools::busy, x -> x.setWeight(5, weight));
        }
    }

    private static void setPassTakes0To100() {
        BOUNDARY.sentence("10", "`mark`: 0 to 100");
        for (int mark = 0; mark <= 100; mark++) {
            int each = mark;
            BOUNDARY.answers("pass mark " + mark, mark, x -> x.setPass(each), x -> x.setPass(1));
        }
    }

    private static void setPassReturnsThePassMarkBefore() {
        BOUNDARY.sentence("10", "Returns the pass mark before.");
        BOUNDARY.answers("60 at first", 60, Schools::empty, x -> x.setPass(0));
        BOUNDARY.answers("0 before", 0, x -> x.setPass(0), x -> x.setPass(100));
        BOUNDARY.answers("100 before", 100, x -> x.setPass(100), x -> x.setPass(0));
        BOUNDARY.answers("the same before", 100, x -> x.setPass(100), x -> x.setPass(100));
    }

    private static void setPassRefusesMarksOutOfRange() {
        BOUNDARY.sentence("10", "Throws `IllegalArgumentException` if mark is out of range");
        for (int mark : Boundary.outside(0, 100)) {
            BOUNDARY.refuses("pass mark " + mark, Boundary.ARGUMENT, Schools::busy, x -> x.setPass(mark));
        }
    }

    private static void faultsTakeFirstAndLastBar() {
        BOUNDARY.sentence("11", "`bar`: a bar, from 0");
        Consumer<HarmoniumDesk> crossed = x -> {
            x.begin(12);
            x.setNote(0, 0, 0, 19);
            x.setNote(0, 0, 11, 19);
        };
        for (int bar = 0; bar < 12; bar++) {
            int each = bar;
            BOUNDARY.answers("crossing at " + bar, bar == 0 || bar == 11 ? 1 : 0, crossed,
                    x -> x.faults(0, each, CROSSING));
        }
        BOUNDARY.answers("the only bar", 0, Schools.oneScore(1), x -> x.faults(0, 0, CROSSING));
    }

    /** Bar 2 has 1 discord (5), no parallels, 2 leaps, no crossing, 1 bad end and the upper note does not stand. */
    private static void faultsTakeRules0To5() {
        BOUNDARY.sentence("11", "`rule`: 0 to 5");
        Consumer<HarmoniumDesk> score = Schools.score(new int[] {20, 20, 40}, new int[] {20, 20, 35});
        int[] due = {1, 0, 2, 0, 1, 0};
        for (int rule = 0; rule <= 5; rule++) {
            int each = rule;
            BOUNDARY.answers("rule " + rule, due[rule], score, x -> x.faults(0, 2, each));
        }
        BOUNDARY.answers("rule 5, of a standing note", 1, Schools.oneScore(3), x -> x.faults(0, 2, STANDING));
    }

    private static void faultsAreThereWhateverTheWeight() {
        BOUNDARY.sentence("11", "Returns the number, whatever the weight is.");
        for (int weight : new int[] {0, 1, 50}) {
            Consumer<HarmoniumDesk> setup = Schools.score(new int[] {23}, new int[] {20})
                    .andThen(x -> x.setWeight(ENDS, weight));
            BOUNDARY.answers("weight " + weight, 2, setup, x -> x.faults(0, 0, ENDS));
        }
        BOUNDARY.changesNothing("asking", Schools::busy, x -> x.faults(4, 3, ENDS));
    }

    private static void faultsRefuseNoSuchPlaceOrRule() {
        BOUNDARY.sentence("11", "Throws `IndexOutOfBoundsException` if there is no such version, bar or rule");
        for (int version : Boundary.outside(0, 6)) {
            BOUNDARY.refuses("version " + version, Boundary.BOUNDS, Schools::busy, x -> x.faults(version, 0, 0));
        }
        for (int bars : new int[] {1, 4, 12}) {
            for (int bar : Boundary.outside(0, bars - 1)) {
                for (int rule = 0; rule <= 5; rule++) {
                    int each = rule;
                    BOUNDARY.refuses("bar " + bar + " of " + bars + ", rule " + rule, Boundary.BOUNDS,
                            Schools.oneScore(bars), x -> x.faults(0, bar, each));
                }
            }
        }
        for (int rule : Boundary.outside(0, 5)) {
            BOUNDARY.refuses("rule " + rule, Boundary.BOUNDS, Schools::busy, x -> x.faults(4, 0, rule));
        }
        BOUNDARY.refuses("a bar that another version has", Boundary.BOUNDS, Schools::busy, x -> x.faults(5, 3, 0));
    }

    /** A new score of so many bars has a fault of standing in each but the first two. */
    private static Consumer<HarmoniumDesk> standing(int bars, int weight) {
        return x -> {
            x.begin(bars);
            x.setWeight(STANDING, weight);
        };
    }

    private static void markIs0To100() {
        BOUNDARY.sentence("12", "Returns 0 to 100.");
        BOUNDARY.answers("no fault", 100, standing(2, 50), x -> x.mark(0));
        BOUNDARY.answers("one bar", 100, standing(1, 50), x -> x.mark(0));
        BOUNDARY.answers("one fault of weight 1", 99, standing(3, 1), x -> x.mark(0));
        BOUNDARY.answers("10 faults of weight 0", 100, standing(12, 0), x -> x.mark(0));
        BOUNDARY.answers("9 faults of weight 11", 1, standing(11, 11), x -> x.mark(0));
        BOUNDARY.answers("10 faults of weight 10", 0, standing(12, 10), x -> x.mark(0));
        BOUNDARY.answers("3 faults of weight 34", 0, standing(5, 34), x -> x.mark(0));
        BOUNDARY.answers("10 faults of weight 50", 0, standing(12, 50), x -> x.mark(0));
        BOUNDARY.changesNothing("asking", Schools::busy, x -> x.mark(4));
    }

    private static void markRefusesNoSuchVersion() {
        BOUNDARY.sentence("12", "Throws `IndexOutOfBoundsException` if there is no such version");
        for (int version : Boundary.outside(0, 6)) {
            BOUNDARY.refuses("mark(" + version + ")", Boundary.BOUNDS, Schools::busy, x -> x.mark(version));
        }
        for (int version : Boundary.outside(0, 29)) {
            BOUNDARY.refuses("mark(" + version + ") of 30", Boundary.BOUNDS, Schools.withVersions(30),
                    x -> x.mark(version));
        }
    }

    private static void handInIsTrueIfItPasses() {
        BOUNDARY.sentence("13", "Returns true if it passes.");
        BOUNDARY.answers("60 at 60", 1, standing(10, 5), x -> x.handIn(0) ? 1 : 0);
        BOUNDARY.answers("55 at 60", 0, standing(11, 5), x -> x.handIn(0) ? 1 : 0);
        BOUNDARY.answers("60 at 61", 0, standing(10, 5).andThen(x -> x.setPass(61)), x -> x.handIn(0) ? 1 : 0);
        BOUNDARY.answers("0 at 0", 1, standing(12, 50).andThen(x -> x.setPass(0)), x -> x.handIn(0) ? 1 : 0);
        BOUNDARY.answers("0 at 1", 0, standing(12, 50).andThen(x -> x.setPass(1)), x -> x.handIn(0) ? 1 : 0);
        BOUNDARY.answers("100 at 100", 1, standing(1, 5).andThen(x -> x.setPass(100)), x -> x.handIn(0) ? 1 : 0);
        BOUNDARY.answers("99 at 100", 0, standing(3, 1).andThen(x -> x.setPass(100)), x -> x.handIn(0) ? 1 : 0);
    }

    private static void handInIsKept() {
        BOUNDARY.sentence("13", "Hands a version in: it is kept whether it passes.");
        BOUNDARY.answers("it passed", 1, handedInAt(60, 100), HarmoniumDesk::fallen);
        BOUNDARY.answers("it did not pass", 0, handedInAt(61, 100), HarmoniumDesk::fallen);
        BOUNDARY.answers("it passed, and can be changed", 20, handedInAt(60, 60), x -> x.setNote(0, 0, 0, 1));
        BOUNDARY.answers("a version that cannot be changed", 1, standing(10, 5).andThen(x -> x.branch(0)),
                x -> x.handIn(0) ? 1 : 0);
    }

    /** A version with a mark of 60 is handed in with the first pass mark, then the second one is set. */
    private static Consumer<HarmoniumDesk> handedInAt(int passMark, int laterPassMark) {
        return standing(10, 5).andThen(x -> {
            x.setPass(passMark);
            x.handIn(0);
            x.setPass(laterPassMark);
        });
    }

    private static void handInRefusesNoSuchVersion() {
        BOUNDARY.sentence("13", "Throws `IndexOutOfBoundsException` if there is no such version");
        for (int version : Boundary.outside(0, 6)) {
            BOUNDARY.refuses("handIn(" + version + ")", Boundary.BOUNDS, Schools::busy, x -> x.handIn(version) ? 1 : 0);
        }
        for (int version : Boundary.outside(0, 29)) {
            BOUNDARY.refuses("handIn(" + version + ") of 30", Boundary.BOUNDS, Schools.withVersions(30),
                    x -> x.handIn(version) ? 1 : 0);
        }
    }

    private static void fallenPassedWhenHandedInLast() {
        BOUNDARY.sentence("14", "Returns the versions that passed when they were handed in last, and do not pass "
                + "now.");
        BOUNDARY.answers("never handed in", 0, standing(12, 50), HarmoniumDesk::fallen);
        BOUNDARY.answers("passed once, not the last time", 0,
                handedInAt(60, 61).andThen(x -> x.handIn(0)), HarmoniumDesk::fallen);
        BOUNDARY.answers("not at first, but the last time", 1,
                handedInAt(61, 60).andThen(x -> x.handIn(0)).andThen(x -> x.setPass(61)), HarmoniumDesk::fallen);
        BOUNDARY.answers("passed both times", 1,
                handedInAt(60, 60).andThen(x -> x.handIn(0)).andThen(x -> x.setPass(61)), HarmoniumDesk::fallen);
        BOUNDARY.answers("a branch was not handed in", 1, handedInAt(60, 61).andThen(x -> x.branch(0)),
                HarmoniumDesk::fallen);
        BOUNDARY.answers("a merged version was not handed in", 1,
                handedInAt(60, 61).andThen(x -> x.branch(0)).andThen(x -> x.merge(0, 1)), HarmoniumDesk::fallen);
        BOUNDARY.changesNothing("asking", handedInAt(60, 61), HarmoniumDesk::fallen);
    }

    private static void fallenDoNotPassNow() {
        BOUNDARY.sentence("14", "and do not pass now");
        BOUNDARY.answers("just passing", 0, handedInAt(59, 60), HarmoniumDesk::fallen);
        BOUNDARY.answers("just not passing", 1, handedInAt(59, 61), HarmoniumDesk::fallen);
        BOUNDARY.answers("by a weight, just passing", 0,
                handedInAt(60, 52).andThen(x -> x.setWeight(STANDING, 6)), HarmoniumDesk::fallen);
        BOUNDARY.answers("by a weight, just not passing", 1,
                handedInAt(60, 53).andThen(x -> x.setWeight(STANDING, 6)), HarmoniumDesk::fallen);
        BOUNDARY.answers("by a note", 1, handedInAt(60, 60).andThen(x -> x.setNote(0, 0, 0, 19)),
                HarmoniumDesk::fallen);
        BOUNDARY.answers("fallen, and passing again", 0,
                handedInAt(60, 61).andThen(HarmoniumDesk::fallen).andThen(x -> x.setPass(60)), HarmoniumDesk::fallen);
        BOUNDARY.answers("passing again, and fallen again", 1,
                handedInAt(60, 61).andThen(x -> x.setPass(60)).andThen(HarmoniumDesk::fallen)
                        .andThen(x -> x.setPass(61)),
                HarmoniumDesk::fallen);
    }

    /** 30 versions, of which each in the set is handed in before the pass mark is set too high for all. */
    private static Consumer<HarmoniumDesk> fallenOf30(int set) {
        return x -> {
            for (int version = 0; version < 30; version++) {
                x.begin(3);
                if ((set >> version & 1) == 1) {
                    x.handIn(version);
                }
            }
            x.setPass(100);
        };
    }

    private static void fallenAreASet() {
        BOUNDARY.sentence("14", "Returns the versions, as a set: bit v for version v.");
        for (int version = 0; version < 30; version++) {
            int set = 1 << version;
            BOUNDARY.answers("version " + version, set, fallenOf30(set), HarmoniumDesk::fallen);
        }
        BOUNDARY.answers("none", 0, fallenOf30(0), HarmoniumDesk::fallen);
        BOUNDARY.answers("all", (1 << 30) - 1, fallenOf30((1 << 30) - 1), HarmoniumDesk::fallen);
    }

    private static void bestTakesBothVoices() {
        BOUNDARY.sentence("15", "`voice`: 0 or 1");
        Consumer<HarmoniumDesk> score = Schools.score(new int[] {30}, new int[] {10});
        BOUNDARY.answers("upper, on 10", 10, score, x -> x.best(0, 0, 0));
        BOUNDARY.answers("lower, under 30", 6, score, x -> x.best(0, 1, 0));
    }

    private static void bestTakesFirstAndLastBar() {
        BOUNDARY.sentence("15", "`bar`: a bar, from 0");
        Consumer<HarmoniumDesk> leaps = Schools.score(
                new int[] {20, 30, 20, 20, 20, 20, 20, 20, 20, 20, 40, 20},
                new int[] {20, 20, 20, 20, 20, 20, 20, 20, 20, 20, 20, 20}).andThen(Schools.onlyRule(LEAPS, 50));
        BOUNDARY.answers("first of 12, next to 30", 21, leaps, x -> x.best(0, 0, 0));
        BOUNDARY.answers("last of 12, next to 40", 31, leaps, x -> x.best(0, 0, 11));
        BOUNDARY.answers("between 30 and 20", 21, leaps, x -> x.best(0, 0, 2));
        BOUNDARY.answers("between 20 and 20", 11, leaps, x -> x.best(0, 0, 10));
        Consumer<HarmoniumDesk> stands = Schools.score(new int[] {0, 0, 0}, new int[] {0, 0, 0})
                .andThen(Schools.onlyRule(STANDING, 1));
        BOUNDARY.answers("first of three, so that the last one does not stand", 1, stands, x -> x.best(0, 0, 0));
        BOUNDARY.answers("between", 1, stands, x -> x.best(0, 0, 1));
        BOUNDARY.answers("last of three", 1, stands, x -> x.best(0, 0, 2));
        Consumer<HarmoniumDesk> ends = Schools.score(new int[] {30}, new int[] {10})
                .andThen(Schools.onlyRule(ENDS, 50));
        BOUNDARY.answers("the only bar, 3, 10, 15 and 22 are as good", 3, ends, x -> x.best(0, 0, 0));
    }

    private static void bestIsTheLeastAndTheLowest() {
        BOUNDARY.sentence("15", "Returns the note with which all weights times faults of the version would be least, "
                + "of several the lowest one.");
        BOUNDARY.answers("all are as good", 0, Schools.oneScore(1).andThen(Schools.onlyRule(CROSSING, 0)),
                x -> x.best(0, 0, 0));
        Consumer<HarmoniumDesk> apart = Schools.score(new int[] {0}, new int[] {40})
                .andThen(Schools.onlyRule(CROSSING, 1));
        BOUNDARY.answers("40 alone", 40, apart, x -> x.best(0, 0, 0));
        BOUNDARY.answers("0 alone", 0, apart, x -> x.best(0, 1, 0));
        // Upper 0 and 40 in turn, lower the other way: far below mark 0, whichever note bar 2 has.
        Consumer<HarmoniumDesk> below = Schools.score(new int[] {0, 40, 0, 40, 0}, new int[] {40, 0, 40, 0, 40})
                .andThen(x -> x.setWeight(LEAPS, 50)).andThen(x -> x.setWeight(CROSSING, 50));
        BOUNDARY.answers("below mark 0, neither leap nor crossing", 40, below, x -> x.best(0, 0, 2));
        BOUNDARY.answers("the note is left", 0, below.andThen(x -> x.best(0, 0, 2)), x -> x.note(0, 0, 2));
        BOUNDARY.changesNothing("asking for a changeable version", Schools::busy, x -> x.best(4, 0, 0));
        BOUNDARY.changesNothing("asking for an unchangeable one", Schools::busy, x -> x.best(0, 1, 3));
    }

    private static void bestRefusesNoSuchPlace() {
        BOUNDARY.sentence("15", "Throws `IndexOutOfBoundsException` if there is no such version, voice or bar");
        for (int version : Boundary.outside(0, 6)) {
            BOUNDARY.refuses("version " + version, Boundary.BOUNDS, Schools::busy, x -> x.best(version, 0, 0));
        }
        for (int voice : Boundary.outside(0, 1)) {
            BOUNDARY.refuses("voice " + voice, Boundary.BOUNDS, Schools::busy, x -> x.best(4, voice, 0));
        }
        for (int bars : new int[] {1, 4, 12}) {
            for (int bar : Boundary.outside(0, bars - 1)) {
                BOUNDARY.refuses("bar " + bar + " of " + bars, Boundary.BOUNDS, Schools.oneScore(bars),
                        x -> x.best(0, 1, bar));
            }
        }
        BOUNDARY.refuses("a bar that another version has", Boundary.BOUNDS, Schools::busy, x -> x.best(5, 0, 3));
    }

    private static void movementTakesBothVoices() {
        BOUNDARY.sentence("16", "`voice`: 0 or 1");
        Consumer<HarmoniumDesk> score = Schools.score(new int[] {20, 23}, new int[] {20, 13});
        BOUNDARY.answers("upper", 3, score, x -> x.movement(0, 0));
        BOUNDARY.answers("lower", 7, score, x -> x.movement(0, 1));
    }

    private static void movementIsAFloatAnd0WithOneBar() {
        BOUNDARY.sentence("16", "Returns the sum of how far each note is from that of the bar before, as a float, "
                + "divided by the number of bars less 1, as a float; 0 with one bar.");
        BOUNDARY.answers("one bar, upper", 0, Schools.score(new int[] {40}, new int[] {0}), x -> x.movement(0, 0));
        BOUNDARY.answers("one bar, lower", 0, Schools.score(new int[] {40}, new int[] {7}), x -> x.movement(0, 1));
        BOUNDARY.answers("two bars", 40, Schools.score(new int[] {40, 0}, new int[] {0, 0}), x -> x.movement(0, 0));
        BOUNDARY.answers("none moves", 0, Schools.oneScore(12), x -> x.movement(0, 1));
        int[] turns = {0, 40, 0, 40, 0, 40, 0, 40, 0, 40, 0, 40};
        BOUNDARY.answers("as much as can be", 40, Schools.score(turns, turns), x -> x.movement(0, 1));
        BOUNDARY.answers("a third as a float", 0.3333333432674408, Schools.score(
                new int[] {20, 20, 20, 21}, new int[] {20, 20, 20, 20}), x -> x.movement(0, 0));
        BOUNDARY.answers("the step to the last of 12 bars", 0.09090909361839294,
                Schools.oneScore(12).andThen(x -> x.setNote(0, 1, 11, 19)), x -> x.movement(0, 1));
        BOUNDARY.answers("the step from the first of 12 bars", 0.09090909361839294,
                Schools.oneScore(12).andThen(x -> x.setNote(0, 1, 0, 19)), x -> x.movement(0, 1));
        BOUNDARY.changesNothing("asking", Schools::busy, x -> x.movement(4, 0));
    }

    private static void movementRefusesNoSuchVersionOrVoice() {
        BOUNDARY.sentence("16", "Throws `IndexOutOfBoundsException` if there is no such version or voice");
        for (int version : Boundary.outside(0, 6)) {
            BOUNDARY.refuses("version " + version, Boundary.BOUNDS, Schools::busy, x -> x.movement(version, 0));
        }
        for (int voice : Boundary.outside(0, 1)) {
            BOUNDARY.refuses("voice " + voice, Boundary.BOUNDS, Schools::busy, x -> x.movement(4, voice));
            BOUNDARY.refuses("voice " + voice + " of one bar", Boundary.BOUNDS, Schools.oneScore(1),
                    x -> x.movement(0, voice));
        }
    }
}
