import java.util.function.Consumer;

/** Schools in which the boundary cases are asked for. */
final class Schools {
    private Schools() {
    }

    static HarmoniumDesk made(Consumer<HarmoniumDesk> setup) {
        HarmoniumDesk school = new HarmoniumDesk();
        setup.accept(school);
        return school;
    }

    static void empty(HarmoniumDesk x) {
    }

    static Consumer<HarmoniumDesk> oneScore(int bars) {
        return x -> x.begin(bars);
    }

    /** Version 0, of these notes. */
    static Consumer<HarmoniumDesk> score(int[] upper, int[] lower) {
        return x -> {
            x.begin(upper.length);
            for (int bar = 0; bar < upper.length; bar++) {
                x.setNote(0, 0, bar, upper[bar]);
                x.setNote(0, 1, bar, lower[bar]);
            }
        };
    }

    /**
     * Versions 0 to 6 and copies 0 and 1, of each kind one: 0, 1 and 2 cannot be changed, nor can 5;
     * 3 is merged of 1 and 2; 4 (4 bars), 5 (3 bars) and 6 (5 bars) have no parents.
     */
    static void busy(HarmoniumDesk x) {
        x.begin(4);
        x.setNote(0, 0, 3, 27);
        x.branch(0);
        x.branch(0);
        x.setNote(1, 0, 1, 24);
        x.setNote(1, 1, 0, 13);
        x.setNote(2, 0, 2, 25);
        x.setNote(2, 1, 0, 8);
        x.merge(1, 2);
        x.begin(4);
        x.setNote(4, 0, 0, 31);
        x.setNote(4, 1, 3, 10);
        x.begin(3);
        x.begin(5);
        x.print(0, 0);
        x.print(5, 1);
        x.slip(0, 4);
        x.setWeight(5, 7);
        x.setPass(55);
        x.handIn(0);
        x.handIn(3);
        x.handIn(6);
    }

    /** A busy school with so many versions; behind version 6 are new ones of 4 bars, with its number below in bar 1. */
    static Consumer<HarmoniumDesk> withVersions(int count) {
        return x -> {
            busy(x);
            for (int number = 7; number < count; number++) {
                x.begin(4);
                x.setNote(number, 1, 1, number);
            }
        };
    }

    /** A busy school with so many copies; all behind copy 1 are of version 0, in turn of each voice. */
    static Consumer<HarmoniumDesk> withCopies(int count) {
        return x -> {
            busy(x);
            for (int number = 2; number < count; number++) {
                x.print(0, number % 2);
            }
        };
    }

    /** A busy school with 30 versions and 20 copies. */
    static void full(HarmoniumDesk x) {
        withVersions(30).accept(x);
        for (int number = 2; number < 20; number++) {
            x.print(0, 0);
        }
    }

    /** Version 0 of so many bars, and two branches of it, 1 and 2. */
    static Consumer<HarmoniumDesk> twoBranches(int bars) {
        return x -> {
            x.begin(bars);
            x.branch(0);
            x.branch(0);
        };
    }

    /** All rules but one have weight 0. */
    static Consumer<HarmoniumDesk> onlyRule(int only, int weight) {
        return x -> {
            for (int rule = 0; rule < 6; rule++) {
                x.setWeight(rule, rule == only ? weight : 0);
            }
        };
    }
}
