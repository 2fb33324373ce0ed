/** Promises 17 to 20: print, errata, slip, slips. */
public final class CopiesTest {
    private static final Expect EXPECT = new Expect();

    public static void main(String[] args) {
        print();
        printIsRefused();
        errata();
        slip();
        slipsAreCountedEachTime();
        wrongCopies();
        otherBars();
        EXPECT.finish();
    }

    private static void print() {
        HarmoniumDesk x = new HarmoniumDesk();
        x.begin(3);
        x.begin(3);
        x.setNote(0, 0, 2, 31);
        x.setNote(0, 1, 1, 13);
        EXPECT.answers("print(0, 0)", 0, () -> x.print(0, 0));
        EXPECT.answers("print(0, 1)", 1, () -> x.print(0, 1));
        EXPECT.answers("the same again", 2, () -> x.print(0, 1));
        EXPECT.answers("copy 0 is as printed", 0, () -> x.errata(0, 0));
        EXPECT.answers("copy 1 is as printed", 0, () -> x.errata(1, 0));
        EXPECT.answers("copy 0 is of the upper voice", 4, () -> x.errata(0, 1));
        EXPECT.answers("copy 1 is of the lower voice", 2, () -> x.errata(1, 1));
        EXPECT.answers("no slips at first", 0, () -> x.slips(0));
    }

    private static void printIsRefused() {
        HarmoniumDesk x = new HarmoniumDesk();
        x.begin(1);
        x.begin(1);
        for (int wrong : new int[] {-1, 2, 30, Integer.MIN_VALUE, Integer.MAX_VALUE}) {
            EXPECT.refuses("print of version " + wrong, Expect.BOUNDS, () -> x.print(wrong, 0));
            EXPECT.refuses("print of voice " + wrong, Expect.BOUNDS, () -> x.print(0, wrong));
        }
        EXPECT.answers("a refused print fixes nothing", 20, () -> x.setNote(0, 0, 0, 21));
        for (int number = 0; number < 20; number++) {
            int voice = number % 2;
            EXPECT.answers("print", number, () -> x.print(0, voice));
        }
        EXPECT.refuses("print with 20 copies", Expect.STATE, () -> x.print(1, 0));
        EXPECT.refuses("wrong version with 20 copies", Expect.BOUNDS, () -> x.print(2, 0));
        EXPECT.refuses("wrong voice with 20 copies", Expect.BOUNDS, () -> x.print(1, 2));
        EXPECT.answers("print with 20 copies fixes nothing", 20, () -> x.setNote(1, 0, 0, 21));
        EXPECT.answers("the last copy", 0, () -> x.slips(19));
        EXPECT.refuses("no copy 20", Expect.BOUNDS, () -> x.slips(20));
    }

    private static void errata() {
        HarmoniumDesk x = new HarmoniumDesk();
        x.begin(12);
        x.begin(12);
        x.print(0, 1);
        EXPECT.answers("nothing is other", 0, () -> x.errata(0, 1));
        x.setNote(1, 0, 5, 1);
        EXPECT.answers("another voice does not count", 0, () -> x.errata(0, 1));
        x.setNote(1, 1, 0, 19);
        x.setNote(1, 1, 11, 21);
        EXPECT.answers("first and last bar", 1 + (1 << 11), () -> x.errata(0, 1));
        for (int bar = 0; bar < 12; bar++) {
            x.setNote(1, 1, bar, 40);
        }
        EXPECT.answers("all bars", 4095, () -> x.errata(0, 1));
        EXPECT.answers("errata change nothing", 4095, () -> x.errata(0, 1));
        EXPECT.answers("errata are no slips", 0, () -> x.slips(0));
    }

    private static void slip() {
        HarmoniumDesk x = new HarmoniumDesk();
        x.begin(4);
        x.branch(0);
        x.setNote(1, 0, 0, 1);
        x.setNote(1, 0, 3, 2);
        x.setNote(1, 1, 1, 3);
        x.print(0, 0);
        x.print(0, 0);
        EXPECT.answers("slip", 2, () -> x.slip(0, 1));
        EXPECT.answers("it is as the version now", 0, () -> x.errata(0, 1));
        EXPECT.answers("it is other than printed", 9, () -> x.errata(0, 0));
        EXPECT.answers("another copy stays", 0, () -> x.errata(1, 0));
        EXPECT.answers("slip of nothing", 0, () -> x.slip(0, 1));
        EXPECT.answers("the printed version stays", 20, () -> x.note(0, 0, 0));
        x.setNote(1, 0, 3, 20);
        EXPECT.answers("a later change is no change of the copy", 8, () -> x.errata(0, 1));
        EXPECT.answers("slip again", 1, () -> x.slip(0, 1));
        EXPECT.answers("slip back to the printed one", 1, () -> x.slip(0, 0));
        EXPECT.answers("as printed", 0, () -> x.errata(0, 0));
    }

    private static void slipsAreCountedEachTime() {
        HarmoniumDesk x = new HarmoniumDesk();
        x.begin(12);
        x.begin(12);
        for (int bar = 0; bar < 12; bar++) {
            x.setNote(1, 0, bar, bar);
        }
        x.print(0, 0);
        x.print(0, 0);
        int due = 0;
        for (int time = 0; time < 20; time++) {
            int version = (time + 1) % 2;
            int sum = due + 12;
            EXPECT.answers("slip " + time, 12, () -> x.slip(0, version));
            EXPECT.answers("slips after " + time, sum, () -> x.slips(0));
            due = sum;
        }
        EXPECT.answers("slips of another copy", 0, () -> x.slips(1));
    }

    private static void wrongCopies() {
        HarmoniumDesk x = new HarmoniumDesk();
        x.begin(2);
        x.begin(3);
        x.print(0, 0);
        for (int wrong : new int[] {-1, 2, 20, 30, Integer.MIN_VALUE, Integer.MAX_VALUE}) {
            EXPECT.refuses("errata of copy " + wrong, Expect.BOUNDS, () -> x.errata(wrong, 0));
            EXPECT.refuses("errata of version " + wrong, Expect.BOUNDS, () -> x.errata(0, wrong));
            EXPECT.refuses("slip of copy " + wrong, Expect.BOUNDS, () -> x.slip(wrong, 0));
            EXPECT.refuses("slip of version " + wrong, Expect.BOUNDS, () -> x.slip(0, wrong));
            EXPECT.refuses("slips of copy " + wrong, Expect.BOUNDS, () -> x.slips(wrong));
        }
        EXPECT.refuses("errata of no copy and other bars", Expect.BOUNDS, () -> x.errata(1, 1));
        EXPECT.refuses("slip of no copy and other bars", Expect.BOUNDS, () -> x.slip(1, 1));
        EXPECT.answers("nothing is changed", 0, () -> x.slips(0));
    }

    private static void otherBars() {
        HarmoniumDesk x = new HarmoniumDesk();
        x.begin(4);
        x.begin(3);
        x.begin(5);
        x.setNote(1, 0, 0, 7);
        x.setNote(2, 0, 0, 7);
        x.print(0, 0);
        for (int version = 1; version <= 2; version++) {
            int each = version;
            EXPECT.refuses("errata of version " + version, Expect.STATE, () -> x.errata(0, each));
            EXPECT.refuses("slip of version " + version, Expect.STATE, () -> x.slip(0, each));
        }
        EXPECT.answers("the copy stays", 0, () -> x.errata(0, 0));
        EXPECT.answers("no slips", 0, () -> x.slips(0));
    }
}
