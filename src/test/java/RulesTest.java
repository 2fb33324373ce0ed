/** Promises 9 to 16: setWeight, setPass, faults, mark, handIn, fallen, best, movement. */
public final class RulesTest {
    private static final Expect EXPECT = new Expect();
    private static final int DISCORD = 0;
    private static final int PARALLELS = 1;
    private static final int LEAPS = 2;
    private static final int CROSSING = 3;
    private static final int ENDS = 4;
    private static final int STANDING = 5;

    public static void main(String[] args) {
        setWeight();
        setPass();
        discord();
        parallels();
        leaps();
        crossing();
        ends();
        standing();
        faultsAreRefused();
        mark();
        handInAndFallen();
        fallenAfterAChange();
        fallenOfTheLastVersion();
        best();
        bestBelowTheMarks();
        bestIsRefused();
        movement();
        EXPECT.finish();
    }

    /** A school with version 0, of these notes. */
    private static HarmoniumDesk score(int[] upper, int[] lower) {
        HarmoniumDesk x = new HarmoniumDesk();
        x.begin(upper.length);
        for (int bar = 0; bar < upper.length; bar++) {
            x.setNote(0, 0, bar, upper[bar]);
            x.setNote(0, 1, bar, lower[bar]);
        }
        return x;
    }

    private static void finds(String what, int rule, int[] upper, int[] lower, int... due) {
        HarmoniumDesk x = score(upper, lower);
        for (int bar = 0; bar < due.length; bar++) {
            int at = bar;
            EXPECT.answers(what + " at bar " + bar, due[bar], () -> x.faults(0, at, rule));
        }
    }

    private static void setWeight() {
        HarmoniumDesk x = new HarmoniumDesk();
        for (int rule = 0; rule < 6; rule++) {
            int each = rule;
            EXPECT.answers("weight at first", 5, () -> x.setWeight(each, 10 + each));
        }
        for (int rule = 0; rule < 6; rule++) {
            int each = rule;
            EXPECT.answers("weight before", 10 + rule, () -> x.setWeight(each, 0));
            EXPECT.answers("weight 0", 0, () -> x.setWeight(each, 50));
            EXPECT.refuses("weight 51", Expect.ARGUMENT, () -> x.setWeight(each, 51));
            EXPECT.refuses("weight -1", Expect.ARGUMENT, () -> x.setWeight(each, -1));
            EXPECT.answers("weight 50", 50, () -> x.setWeight(each, 5));
        }
        for (int wrong : new int[] {-1, 6, Integer.MIN_VALUE, Integer.MAX_VALUE}) {
            EXPECT.refuses("rule " + wrong, Expect.BOUNDS, () -> x.setWeight(wrong, 5));
            EXPECT.refuses("rule and weight " + wrong, Expect.BOUNDS, () -> x.setWeight(wrong, 51));
        }
        EXPECT.refuses("greatest weight", Expect.ARGUMENT, () -> x.setWeight(0, Integer.MAX_VALUE));
        EXPECT.refuses("least weight", Expect.ARGUMENT, () -> x.setWeight(0, Integer.MIN_VALUE));
    }

    private static void setPass() {
        HarmoniumDesk x = new HarmoniumDesk();
        EXPECT.answers("pass mark at first", 60, () -> x.setPass(0));
        EXPECT.answers("pass mark 0", 0, () -> x.setPass(100));
        for (int wrong : new int[] {-1, 101, Integer.MIN_VALUE, Integer.MAX_VALUE}) {
            EXPECT.refuses("pass mark " + wrong, Expect.ARGUMENT, () -> x.setPass(wrong));
        }
        EXPECT.answers("pass mark 100", 100, () -> x.setPass(60));
    }

    private static void discord() {
        int[] due = {0, 1, 1, 0, 0, 1, 1, 0, 0, 0, 1, 1};
        for (int distance = -40; distance <= 40; distance++) {
            int upper = Math.max(distance, 0);
            int size = Math.abs(distance);
            finds("discord of " + distance, DISCORD, new int[] {upper}, new int[] {upper - distance}, due[size % 12]);
        }
    }

    private static void parallels() {
        finds("fifths", PARALLELS, new int[] {27, 29}, new int[] {20, 22}, 0, 1);
        finds("unisons", PARALLELS, new int[] {20, 21, 22}, new int[] {20, 21, 22}, 0, 1, 1);
        finds("octaves and unison", PARALLELS, new int[] {32, 21}, new int[] {20, 21}, 0, 1);
        finds("fifth and twelfth", PARALLELS, new int[] {27, 40}, new int[] {20, 21}, 0, 1);
        finds("fifth and fifth below", PARALLELS, new int[] {27, 15}, new int[] {20, 22}, 0, 1);
        finds("thirds", PARALLELS, new int[] {24, 26}, new int[] {20, 22}, 0, 0);
        finds("fifth and unison", PARALLELS, new int[] {27, 22}, new int[] {20, 22}, 0, 0);
        finds("the same notes", PARALLELS, new int[] {27, 27}, new int[] {20, 20}, 0, 0);
        finds("the upper note moves alone", PARALLELS, new int[] {20, 32}, new int[] {20, 20}, 0, 0);
        finds("the lower note moves alone", PARALLELS, new int[] {32, 32}, new int[] {20, 8}, 0, 0);
        finds("notes change places", PARALLELS, new int[] {27, 20}, new int[] {20, 27}, 0, 1);
    }

    private static void leaps() {
        finds("9 up", LEAPS, new int[] {20, 29}, new int[] {20, 20}, 0, 0);
        finds("10 up", LEAPS, new int[] {20, 30}, new int[] {20, 20}, 0, 1);
        finds("9 down", LEAPS, new int[] {20, 20}, new int[] {20, 11}, 0, 0);
        finds("10 down", LEAPS, new int[] {20, 20}, new int[] {20, 10}, 0, 1);
        finds("both", LEAPS, new int[] {0, 40, 0}, new int[] {40, 0, 9}, 0, 2, 1);
    }

    private static void crossing() {
        finds("crossing", CROSSING, new int[] {19, 20, 21, 0}, new int[] {20, 20, 20, 40}, 1, 0, 0, 1);
    }

    private static void ends() {
        finds("good ends", ENDS, new int[] {20, 23, 27}, new int[] {20, 20, 20}, 0, 0, 0);
        finds("bad ends", ENDS, new int[] {24, 24, 25}, new int[] {20, 20, 20}, 1, 0, 1);
        finds("ends of octaves below", ENDS, new int[] {8, 8, 1}, new int[] {20, 20, 20}, 0, 0, 0);
        finds("one bad bar", ENDS, new int[] {23}, new int[] {20}, 2);
        finds("one good bar", ENDS, new int[] {39}, new int[] {20}, 0);
    }

    private static void standing() {
        finds("upper stands", STANDING, new int[] {9, 9, 9, 9, 8, 9, 9}, new int[] {1, 2, 3, 4, 5, 6, 7},
                0, 0, 1, 1, 0, 0, 0);
        finds("lower stands", STANDING, new int[] {1, 2, 3, 4}, new int[] {9, 9, 9, 9}, 0, 0, 0, 0);
        finds("two alike", STANDING, new int[] {9, 8, 9, 9}, new int[] {9, 9, 9, 9}, 0, 0, 0, 0);
    }

    private static void faultsAreRefused() {
        HarmoniumDesk x = new HarmoniumDesk();
        x.begin(3);
        for (int wrong : new int[] {-1, 30, Integer.MIN_VALUE, Integer.MAX_VALUE}) {
            EXPECT.refuses("faults of version " + wrong, Expect.BOUNDS, () -> x.faults(wrong, 0, 0));
            EXPECT.refuses("faults at bar " + wrong, Expect.BOUNDS, () -> x.faults(0, wrong, 0));
            EXPECT.refuses("faults of rule " + wrong, Expect.BOUNDS, () -> x.faults(0, 0, wrong));
        }
        EXPECT.refuses("version 1", Expect.BOUNDS, () -> x.faults(1, 0, 0));
        EXPECT.refuses("bar 3", Expect.BOUNDS, () -> x.faults(0, 3, 0));
        EXPECT.refuses("rule 6", Expect.BOUNDS, () -> x.faults(0, 0, 6));
        EXPECT.answers("bar 2, rule 5", 1, () -> x.faults(0, 2, 5));
        x.setWeight(5, 0);
        EXPECT.answers("whatever the weight is", 1, () -> x.faults(0, 2, 5));
    }

    private static void mark() {
        // discord 1, 1; parallels none; leaps 2 at bar 1; crossing at bar 1; ends 1, 1; standing none
        HarmoniumDesk x = score(new int[] {25, 10}, new int[] {20, 30 + 1});
        EXPECT.answers("faults of discord", 1, () -> x.faults(0, 0, DISCORD));
        EXPECT.answers("interval 9 is no discord", 0, () -> x.faults(0, 1, DISCORD));
        EXPECT.answers("mark", 100 - 5 * (1 + 2 + 1 + 2), () -> x.mark(0));
        x.setWeight(LEAPS, 7);
        x.setWeight(ENDS, 11);
        x.setWeight(CROSSING, 1);
        x.setWeight(DISCORD, 2);
        EXPECT.answers("mark by weights", 100 - 2 - 2 * 7 - 1 - 2 * 11, () -> x.mark(0));
        x.setWeight(LEAPS, 50);
        EXPECT.answers("0 at least", 0, () -> x.mark(0));
        x.setWeight(DISCORD, 0);
        x.setWeight(CROSSING, 0);
        x.setWeight(ENDS, 0);
        EXPECT.answers("just 0", 0, () -> x.mark(0));
        x.setWeight(LEAPS, 0);
        EXPECT.answers("100 without weights", 100, () -> x.mark(0));
        EXPECT.refuses("mark of version 1", Expect.BOUNDS, () -> x.mark(1));
        EXPECT.refuses("mark of version -1", Expect.BOUNDS, () -> x.mark(-1));
        for (int bars = 1; bars <= 12; bars++) {
            int due = 100 - 5 * Math.max(0, bars - 2);
            int number = bars;
            x.begin(bars);
            EXPECT.answers("mark of " + bars + " bars at first", due, () -> x.mark(number));
        }
    }

    private static void handInAndFallen() {
        HarmoniumDesk x = new HarmoniumDesk();
        x.begin(6); // 4 faults of standing: 80
        x.begin(12); // 10 faults of standing: 50
        x.begin(10); // 8 faults of standing: 60
        EXPECT.answers("80 passes", 1, () -> x.handIn(0) ? 1 : 0);
        EXPECT.answers("50 does not pass", 0, () -> x.handIn(1) ? 1 : 0);
        EXPECT.answers("60 passes", 1, () -> x.handIn(2) ? 1 : 0);
        EXPECT.answers("none is fallen", 0, x::fallen);
        x.setPass(61);
        EXPECT.answers("60 is fallen", 4, x::fallen);
        x.setPass(81);
        EXPECT.answers("80 is fallen, too", 5, x::fallen);
        x.setPass(60);
        EXPECT.answers("none is fallen any longer", 0, x::fallen);
        x.setWeight(STANDING, 11);
        EXPECT.answers("the weight tells", 5, x::fallen);
        EXPECT.answers("handed in again", 0, () -> x.handIn(0) ? 1 : 0);
        EXPECT.answers("the last time counts", 4, x::fallen);
        x.setWeight(STANDING, 0);
        EXPECT.answers("now it passes", 1, () -> x.handIn(1) ? 1 : 0);
        x.setWeight(STANDING, 50);
        EXPECT.answers("passed later, fallen", 6, x::fallen);
        EXPECT.refuses("handIn of version 3", Expect.BOUNDS, () -> x.handIn(3) ? 1 : 0);
        EXPECT.refuses("handIn of version -1", Expect.BOUNDS, () -> x.handIn(-1) ? 1 : 0);
        x.branch(2);
        x.merge(2, 3);
        EXPECT.answers("a branch was not handed in", 6, x::fallen);
    }

    private static void fallenAfterAChange() {
        HarmoniumDesk x = new HarmoniumDesk();
        x.begin(1);
        x.setPass(100);
        EXPECT.answers("100 passes at 100", 1, () -> x.handIn(0) ? 1 : 0);
        EXPECT.answers("handing in fixes nothing", 20, () -> x.setNote(0, 0, 0, 23));
        EXPECT.answers("fallen by a change", 1, x::fallen);
        x.setNote(0, 0, 0, 27);
        EXPECT.answers("changed to pass again", 0, x::fallen);
    }

    private static void fallenOfTheLastVersion() {
        HarmoniumDesk x = new HarmoniumDesk();
        for (int number = 0; number < 30; number++) {
            x.begin(3);
            x.handIn(number);
        }
        EXPECT.answers("none of 30", 0, x::fallen);
        x.setPass(100);
        EXPECT.answers("all of 30", (1 << 30) - 1, x::fallen);
        x.setPass(0);
        EXPECT.answers("0 is passed by all", 0, x::fallen);
    }

    private static void best() {
        HarmoniumDesk x = new HarmoniumDesk();
        x.begin(1);
        x.setNote(0, 1, 0, 25);
        EXPECT.answers("upper: the unison, as below it they cross", 25, () -> x.best(0, 0, 0));
        EXPECT.answers("lower: the lowest of 1, 8, 13 and 20", 1, () -> x.best(0, 1, 0));
        EXPECT.answers("the version stays", 20, () -> x.note(0, 0, 0));
        x.setWeight(CROSSING, 0);
        EXPECT.answers("upper: the lowest of 1, 6, 13, 18..", 1, () -> x.best(0, 0, 0));
        for (int rule = 0; rule < 6; rule++) {
            x.setWeight(rule, 0);
        }
        EXPECT.answers("all alike", 0, () -> x.best(0, 0, 0));
        x.setWeight(CROSSING, 1);
        x.branch(0);
        EXPECT.answers("a fixed version, too", 25, () -> x.best(0, 0, 0));
        // A leap to the bar behind counts: from 40 down to 31 there is none.
        HarmoniumDesk y = score(new int[] {20, 40}, new int[] {20, 20});
        for (int rule = 0; rule < 6; rule++) {
            y.setWeight(rule, rule == LEAPS ? 5 : 0);
        }
        EXPECT.answers("a leap to the next bar", 31, () -> y.best(0, 0, 0));
        EXPECT.answers("a leap from the bar before", 11, () -> y.best(0, 0, 1));
        // Standing counts two bars behind.
        HarmoniumDesk z = score(new int[] {0, 0, 0}, new int[] {0, 0, 0});
        for (int rule = 0; rule < 6; rule++) {
            z.setWeight(rule, rule == STANDING ? 5 : 0);
        }
        EXPECT.answers("standing of the bar two behind", 1, () -> z.best(0, 0, 0));
        EXPECT.answers("standing of the bar behind", 1, () -> z.best(0, 0, 1));
        EXPECT.answers("standing of the bar itself", 1, () -> z.best(0, 0, 2));
    }

    /** Where all marks are 0, the faults still tell which note is best. */
    private static void bestBelowTheMarks() {
        HarmoniumDesk x = score(new int[] {0, 40, 0, 40, 0}, new int[] {40, 0, 40, 0, 40});
        for (int rule = 0; rule < 6; rule++) {
            x.setWeight(rule, 50);
        }
        EXPECT.answers("mark 0", 0, () -> x.mark(0));
        EXPECT.answers("best in the middle, without leaps", 31, () -> x.best(0, 1, 3));
        EXPECT.answers("best at the end", 40, () -> x.best(0, 0, 4));
        EXPECT.answers("the version stays", 0, () -> x.note(0, 0, 4));
    }

    private static void bestIsRefused() {
        HarmoniumDesk x = new HarmoniumDesk();
        x.begin(3);
        for (int wrong : new int[] {-1, 3, 30, Integer.MIN_VALUE, Integer.MAX_VALUE}) {
            EXPECT.refuses("best of version " + wrong, Expect.BOUNDS, () -> x.best(wrong, 0, 0));
            EXPECT.refuses("best of voice " + wrong, Expect.BOUNDS, () -> x.best(0, wrong, 0));
            EXPECT.refuses("best of bar " + wrong, Expect.BOUNDS, () -> x.best(0, 0, wrong));
            EXPECT.refuses("movement of version " + wrong, Expect.BOUNDS, () -> x.movement(wrong, 0));
            EXPECT.refuses("movement of voice " + wrong, Expect.BOUNDS, () -> x.movement(0, wrong));
        }
        EXPECT.refuses("best of voice 2", Expect.BOUNDS, () -> x.best(0, 2, 0));
        EXPECT.refuses("movement of voice 2", Expect.BOUNDS, () -> x.movement(0, 2));
        EXPECT.refuses("movement of version 1", Expect.BOUNDS, () -> x.movement(1, 0));
    }

    private static void movement() {
        HarmoniumDesk x = score(new int[] {20, 27, 13, 13}, new int[] {0, 40, 0, 1});
        EXPECT.answers("upper", 7.0, () -> x.movement(0, 0));
        EXPECT.answers("lower", 27.0, () -> x.movement(0, 1));
        x.setNote(0, 0, 3, 14);
        EXPECT.answers("a float, not a double", (double) (22f / 3f), () -> x.movement(0, 0));
        HarmoniumDesk y = score(new int[] {33}, new int[] {2});
        EXPECT.answers("one bar, upper", 0.0, () -> y.movement(0, 0));
        EXPECT.answers("one bar, lower", 0.0, () -> y.movement(0, 1));
        HarmoniumDesk z = score(new int[] {3, 40}, new int[] {40, 1});
        EXPECT.answers("two bars, upper", 37.0, () -> z.movement(0, 0));
        EXPECT.answers("two bars, lower", 39.0, () -> z.movement(0, 1));
        y.begin(12);
        EXPECT.answers("none moves", 0.0, () -> y.movement(1, 0));
        y.setNote(1, 1, 11, 0);
        EXPECT.answers("the last bar counts", (double) (20f / 11f), () -> y.movement(1, 1));
    }
}
