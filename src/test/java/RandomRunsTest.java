/**
 * Runs of 512 mixed calls, right and wrong ones, on new objects, each answer compared with
 * PlainSchool's. A refused call that changed something shows in the answers behind it.
 */
public final class RandomRunsTest {
    private static final int RUNS = 1500;
    private static final int CALLS = 512;

    private final Expect expect;
    private final HarmoniumDesk desk = new HarmoniumDesk();
    private final PlainSchool plain = new PlainSchool();
    private final String name;
    private final boolean manyNotes;
    private long seed;

    private RandomRunsTest(Expect expect, int run) {
        this.expect = expect;
        this.name = "run " + run;
        this.seed = run * 7919L + 17;
        this.manyNotes = run % 3 != 0;
    }

    public static void main(String[] args) {
        Expect expect = new Expect();
        for (int run = 0; run < RUNS; run++) {
            RandomRunsTest test = new RandomRunsTest(expect, run);
            for (int call = 0; call < CALLS; call++) {
                test.call(call);
            }
        }
        expect.finish();
    }

    /** The same numbers in each run of the test, from 0 to below the limit. */
    private int next(int limit) {
        seed = seed * 6364136223846793005L + 1442695040888963407L;
        return (int) ((seed >>> 33) % limit);
    }

    /** Mostly from 0 to below the limit, seldom outside. */
    private int about(int limit) {
        switch (next(60)) {
            case 0:
                return -1;
            case 1:
                return limit;
            case 2:
                return next(2) == 0 ? Integer.MIN_VALUE : Integer.MAX_VALUE;
            default:
                return next(limit);
        }
    }

    private int aNote() {
        return manyNotes ? about(41) : 18 + next(4) * 7 % 12;
    }

    private void call(int call) {
        int version = about(Math.min(30, 2 + call / 16));
        int other = about(Math.min(30, 2 + call / 16));
        int voice = about(2);
        int bar = next(3) == 0 ? about(12) : next(4);
        int kind = next(100);
        String what = name + ", call " + call;
        if (call == 0 || kind < 3) {
            int bars = next(4) == 0 ? about(13) : 4;
            expect.same(what + " begin", () -> plain.begin(bars), () -> desk.begin(bars));
        } else if (kind < 42) {
            int note = aNote();
            expect.same(what + " setNote", () -> plain.setNote(version, voice, bar, note),
                    () -> desk.setNote(version, voice, bar, note));
        } else if (kind < 60) {
            callOfVersions(what, kind, version, other, voice, bar);
        } else if (kind < 85) {
            callOfRules(what, kind, version, voice, bar);
        } else {
            callOfCopies(what, kind, version, voice);
        }
    }

    private void callOfVersions(String what, int kind, int version, int other, int voice, int bar) {
        if (kind < 45) {
            expect.same(what + " branch", () -> plain.branch(version), () -> desk.branch(version));
        } else if (kind < 47) {
            expect.same(what + " merge", () -> plain.merge(version, other), () -> desk.merge(version, other));
        } else if (kind < 52) {
            expect.same(what + " base", () -> plain.base(version, other), () -> desk.base(version, other));
        } else if (kind < 55) {
            expect.same(what + " conflicts", () -> plain.conflicts(version, other),
                    () -> desk.conflicts(version, other));
        } else {
            expect.same(what + " note", () -> plain.note(version, voice, bar), () -> desk.note(version, voice, bar));
        }
    }

    private void callOfRules(String what, int kind, int version, int voice, int bar) {
        int rule = about(6);
        if (kind < 62) {
            int weight = about(next(2) == 0 ? 51 : 8);
            expect.same(what + " setWeight", () -> plain.setWeight(rule, weight), () -> desk.setWeight(rule, weight));
        } else if (kind < 64) {
            int mark = about(101);
            expect.same(what + " setPass", () -> plain.setPass(mark), () -> desk.setPass(mark));
        } else if (kind < 68) {
            expect.same(what + " faults", () -> plain.faults(version, bar, rule),
                    () -> desk.faults(version, bar, rule));
        } else if (kind < 71) {
            expect.same(what + " mark", () -> plain.mark(version), () -> desk.mark(version));
        } else if (kind < 75) {
            expect.same(what + " handIn", () -> plain.handIn(version) ? 1 : 0, () -> desk.handIn(version) ? 1 : 0);
        } else if (kind < 79) {
            expect.same(what + " fallen", plain::fallen, desk::fallen);
        } else if (kind < 82) {
            expect.same(what + " best", () -> plain.best(version, voice, bar), () -> desk.best(version, voice, bar));
        } else {
            expect.same(what + " movement", () -> plain.movement(version, voice),
                    () -> desk.movement(version, voice));
        }
    }

    private void callOfCopies(String what, int kind, int version, int voice) {
        int copy = about(next(3) == 0 ? 20 : 3);
        if (kind < 88) {
            expect.same(what + " print", () -> plain.print(version, voice), () -> desk.print(version, voice));
        } else if (kind < 92) {
            expect.same(what + " errata", () -> plain.errata(copy, version), () -> desk.errata(copy, version));
        } else if (kind < 96) {
            expect.same(what + " slip", () -> plain.slip(copy, version), () -> desk.slip(copy, version));
        } else {
            expect.same(what + " slips", () -> plain.slips(copy), () -> desk.slips(copy));
        }
    }
}
