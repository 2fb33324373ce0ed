/**
 * A composition school: scores of two voices in versions that branch and merge, rules that find
 * faults in them, and printed copies that are corrected by slips.
 */
public final class HarmoniumDesk {
    private static final int MAX_VERSIONS = 30;
    private static final int MAX_COPIES = 20;
    private static final int MAX_BARS = 12;
    private static final int VOICES = 2;
    private static final int UPPER = 0;
    private static final int LOWER = 1;
    private static final int HIGHEST_NOTE = 40;
    private static final int FIRST_NOTE = 20;

    private static final int DISCORD = 0;
    private static final int PARALLELS = 1;
    private static final int LEAPS = 2;
    private static final int CROSSING = 3;
    private static final int ENDS = 4;
    private static final int STANDING = 5;
    private static final int RULES = 6;

    private static final int OCTAVE = 12;
    private static final int FIFTH = 7;
    private static final int WIDEST_STEP = 9;
    private static final int MAX_WEIGHT = 50;
    private static final int FIRST_WEIGHT = 5;
    private static final int FULL_MARK = 100;
    private static final int FIRST_PASS_MARK = 60;

    private final Version[] versions = new Version[MAX_VERSIONS];
    private int versionCount = 0;
    private final Copy[] copies = new Copy[MAX_COPIES];
    private int copyCount = 0;
    private final int[] weights = new int[RULES];
    private int passMark = FIRST_PASS_MARK;
    // Made once and used again, so that looking for the best note makes no new rows.
    private final Score trial = new Score();

    public HarmoniumDesk() {
        for (int rule = 0; rule < weights.length; rule++) {
            weights[rule] = FIRST_WEIGHT;
        }
    }

    // ---- versions

    public int begin(int bars) throws IllegalArgumentException, IllegalStateException {
        if (bars < 1 || bars > MAX_BARS) {
            throw new IllegalArgumentException("bars is out of range");
        }
        Version made = addVersion(null);
        made.score.fill(bars, FIRST_NOTE);
        return made.number;
    }

    public int branch(int version) throws IndexOutOfBoundsException, IllegalStateException {
        Version parent = findVersion(version);
        Version made = addVersion(parent);
        made.score.takeAll(parent.score);
        parent.fixed = true;
        return made.number;
    }

    public int setNote(int version, int voice, int bar, int note)
            throws IndexOutOfBoundsException, IllegalArgumentException, IllegalStateException {
        Version changed = findVersion(version);
        checkVoice(voice);
        checkBar(changed, bar);
        if (note < 0 || note > HIGHEST_NOTE) {
            throw new IllegalArgumentException("note is out of range");
        }
        if (changed.fixed) {
            throw new IllegalStateException("the version cannot be changed");
        }
        int before = changed.score.tone(voice, bar);
        changed.score.setTone(voice, bar, note);
        return before;
    }

    public int note(int version, int voice, int bar) throws IndexOutOfBoundsException {
        Version read = findVersion(version);
        checkVoice(voice);
        checkBar(read, bar);
        return read.score.tone(voice, bar);
    }

    public int base(int one, int other) throws IndexOutOfBoundsException {
        Version common = commonAncestor(findVersion(one), findVersion(other));
        return common == null ? -1 : common.number;
    }

    public int conflicts(int one, int other) throws IndexOutOfBoundsException, IllegalStateException {
        Version first = findVersion(one);
        Version second = findVersion(other);
        Version common = commonAncestor(first, second);
        if (common == null) {
            throw new IllegalStateException("the versions have no base");
        }
        return conflictingBars(first.score, second.score, common.score);
    }

    public int merge(int one, int other)
            throws IndexOutOfBoundsException, IllegalArgumentException, IllegalStateException {
        Version first = findVersion(one);
        Version second = findVersion(other);
        if (one == other) {
            throw new IllegalArgumentException("both versions are the same");
        }
        Version common = commonAncestor(first, second);
        if (common == null) {
            throw new IllegalStateException("the versions have no base");
        }
        Version made = addVersion(first);
        mergeInto(made.score, first.score, second.score, common.score);
        first.fixed = true;
        second.fixed = true;
        return made.number;
    }

    // ---- rules and marks

    public int setWeight(int rule, int weight) throws IndexOutOfBoundsException, IllegalArgumentException {
        if (rule < 0 || rule >= weights.length) {
            throw new IndexOutOfBoundsException("no such rule");
        }
        if (weight < 0 || weight > MAX_WEIGHT) {
            throw new IllegalArgumentException("weight is out of range");
        }
        int before = weights[rule];
        weights[rule] = weight;
        return before;
    }

    public int setPass(int mark) throws IllegalArgumentException {
        if (mark < 0 || mark > FULL_MARK) {
            throw new IllegalArgumentException("mark is out of range");
        }
        int before = passMark;
        passMark = mark;
        return before;
    }

    public int faults(int version, int bar, int rule) throws IndexOutOfBoundsException {
        Version read = findVersion(version);
        checkBar(read, bar);
        if (rule < 0 || rule >= RULES) {
            throw new IndexOutOfBoundsException("no such rule");
        }
        return read.score.faultsOf(rule, bar);
    }

    public int mark(int version) throws IndexOutOfBoundsException {
        return markOf(findVersion(version).score);
    }

    public boolean handIn(int version) throws IndexOutOfBoundsException {
        Version handed = findVersion(version);
        handed.passedWhenHandedIn = markOf(handed.score) >= passMark;
        return handed.passedWhenHandedIn;
    }

    public int fallen() {
        int set = 0;
        for (int number = 0; number < versions.length; number++) {
            Version looked = versions[number];
            if (looked != null && looked.passedWhenHandedIn && markOf(looked.score) < passMark) {
                set |= 1 << number;
            }
        }
        return set;
    }

    public int best(int version, int voice, int bar) throws IndexOutOfBoundsException {
        Version read = findVersion(version);
        checkVoice(voice);
        checkBar(read, bar);
        trial.takeAll(read.score);
        return bestTone(voice, bar);
    }

    public float movement(int version, int voice) throws IndexOutOfBoundsException {
        Version read = findVersion(version);
        checkVoice(voice);
        int steps = read.score.bars - 1;
        if (steps <= 0) {
            return 0f;
        }
        return (float) read.score.wayOf(voice) / (float) steps;
    }

    // ---- copies

    public int print(int version, int voice) throws IndexOutOfBoundsException, IllegalStateException {
        Version printed = findVersion(version);
        checkVoice(voice);
        int number = addCopy(voice, printed.score);
        printed.fixed = true;
        return number;
    }

    public int errata(int copy, int version) throws IndexOutOfBoundsException, IllegalStateException {
        Copy read = findCopy(copy);
        Version wanted = findVersion(version);
        checkAsManyBars(read, wanted);
        return read.differingBars(wanted.score);
    }

    public int slip(int copy, int version) throws IndexOutOfBoundsException, IllegalStateException {
        Copy corrected = findCopy(copy);
        Version wanted = findVersion(version);
        checkAsManyBars(corrected, wanted);
        int changed = Integer.bitCount(corrected.differingBars(wanted.score));
        corrected.takeVoice(wanted.score);
        corrected.slipCount += changed;
        return changed;
    }

    public int slips(int copy) throws IndexOutOfBoundsException {
        return findCopy(copy).slipCount;
    }

    // ---- what the calls are made of

    private Version findVersion(int number) {
        if (number < 0 || number >= versions.length) {
            throw new IndexOutOfBoundsException("no such version");
        }
        Version found = versions[number];
        if (found == null) {
            throw new IndexOutOfBoundsException("no such version");
        }
        return found;
    }

    private Copy findCopy(int number) {
        if (number < 0 || number >= copies.length) {
            throw new IndexOutOfBoundsException("no such copy");
        }
        Copy found = copies[number];
        if (found == null) {
            throw new IndexOutOfBoundsException("no such copy");
        }
        return found;
    }

    private static void checkVoice(int voice) {
        if (voice < 0 || voice >= VOICES) {
            throw new IndexOutOfBoundsException("no such voice");
        }
    }

    private static void checkBar(Version version, int bar) {
        if (bar < 0 || bar >= version.score.bars) {
            throw new IndexOutOfBoundsException("no such bar");
        }
    }

    private static void checkAsManyBars(Copy copy, Version version) {
        if (copy.bars != version.score.bars) {
            throw new IllegalStateException("the version has not as many bars");
        }
    }

    private Version addVersion(Version parent) {
        if (versionCount < 0 || versionCount >= versions.length) {
            throw new IllegalStateException("there are 30 versions");
        }
        Version made = new Version(versionCount, parent);
        versions[versionCount] = made;
        versionCount++;
        return made;
    }

    private int addCopy(int voice, Score score) {
        int number = copyCount;
        if (number < 0 || number >= copies.length) {
            throw new IllegalStateException("there are 20 copies");
        }
        copies[number] = new Copy(voice, score);
        copyCount++;
        return number;
    }

    private static Version commonAncestor(Version one, Version other) {
        // A parent has a lower number than its child, so the first one met has the highest number.
        for (Version ancestor = one; ancestor != null; ancestor = ancestor.parent) {
            if (isAncestor(ancestor, other)) {
                return ancestor;
            }
        }
        return null;
    }

    private static boolean isAncestor(Version sought, Version version) {
        for (Version ancestor = version; ancestor != null; ancestor = ancestor.parent) {
            if (ancestor == sought) {
                return true;
            }
        }
        return false;
    }

    private static int conflictingBars(Score first, Score second, Score common) {
        int set = 0;
        for (int bar = 0; bar < first.bars; bar++) {
            if (!first.sameBar(second, bar) && !first.sameBar(common, bar) && !second.sameBar(common, bar)) {
                set |= 1 << bar;
            }
        }
        return set;
    }

    private static void mergeInto(Score made, Score first, Score second, Score common) {
        made.takeAll(first);
        for (int bar = 0; bar < first.bars; bar++) {
            if (first.sameBar(common, bar)) {
                made.takeBar(second, bar);
            }
        }
    }

    private int markOf(Score score) {
        return Math.max(0, FULL_MARK - weightedFaults(score, 0, score.bars));
    }

    private int weightedFaults(Score score, int firstBar, int endBar) {
        int sum = 0;
        for (int rule = 0; rule < weights.length; rule++) {
            for (int bar = firstBar; bar < endBar; bar++) {
                sum += weights[rule] * score.faultsOf(rule, bar);
            }
        }
        return sum;
    }

    private int bestTone(int voice, int bar) {
        // A note counts in its own bar and the two behind it; the faults of all others stay as they are.
        int endBar = Math.min(bar + 3, trial.bars);
        int bestTone = 0;
        int least = 0;
        for (int tone = 0; tone <= HIGHEST_NOTE; tone++) {
            trial.setTone(voice, bar, tone);
            int sum = weightedFaults(trial, bar, endBar);
            if (tone == 0 || sum < least) {
                least = sum;
                bestTone = tone;
            }
        }
        return bestTone;
    }

    /** The notes of both voices, bar by bar, and what the rules find in them. */
    private static final class Score {
        private int bars = 0;
        private final int[] upper = new int[MAX_BARS];
        private final int[] lower = new int[MAX_BARS];

        int tone(int voice, int bar) {
            int[] row = voice == UPPER ? upper : lower;
            return bar >= 0 && bar < row.length ? row[bar] : 0;
        }

        void setTone(int voice, int bar, int tone) {
            int[] row = voice == UPPER ? upper : lower;
            if (bar >= 0 && bar < row.length) {
                row[bar] = tone;
            }
        }

        void fill(int newBars, int tone) {
            bars = newBars;
            for (int bar = 0; bar < newBars; bar++) {
                setTone(UPPER, bar, tone);
                setTone(LOWER, bar, tone);
            }
        }

        void takeAll(Score other) {
            bars = other.bars;
            for (int bar = 0; bar < other.bars; bar++) {
                takeBar(other, bar);
            }
        }

        void takeBar(Score other, int bar) {
            setTone(UPPER, bar, other.tone(UPPER, bar));
            setTone(LOWER, bar, other.tone(LOWER, bar));
        }

        boolean sameBar(Score other, int bar) {
            return tone(UPPER, bar) == other.tone(UPPER, bar) && tone(LOWER, bar) == other.tone(LOWER, bar);
        }

        int wayOf(int voice) {
            int sum = 0;
            for (int bar = 1; bar < bars; bar++) {
                sum += stepTo(voice, bar);
            }
            return sum;
        }

        int faultsOf(int rule, int bar) {
            switch (rule) {
                case DISCORD:
                    return isDiscord(bar) ? 1 : 0;
                case PARALLELS:
                    return isParallel(bar) ? 1 : 0;
                case LEAPS:
                    return leapsTo(bar);
                case CROSSING:
                    return tone(UPPER, bar) < tone(LOWER, bar) ? 1 : 0;
                case ENDS:
                    return badEndsAt(bar);
                case STANDING:
                    return isStanding(bar) ? 1 : 0;
                default:
                    return 0;
            }
        }

        private int interval(int bar) {
            return Math.abs(tone(UPPER, bar) - tone(LOWER, bar)) % OCTAVE;
        }

        private static boolean isPerfect(int interval) {
            return interval == 0 || interval == FIFTH;
        }

        private int stepTo(int voice, int bar) {
            return Math.abs(tone(voice, bar) - tone(voice, bar - 1));
        }

        private boolean isDiscord(int bar) {
            switch (interval(bar)) {
                case 1:
                case 2:
                case 5:
                case 6:
                case 10:
                case 11:
                    return true;
                default:
                    return false;
            }
        }

        private boolean isParallel(int bar) {
            return bar >= 1
                    && stepTo(UPPER, bar) != 0
                    && stepTo(LOWER, bar) != 0
                    && interval(bar) == interval(bar - 1)
                    && isPerfect(interval(bar));
        }

        private int leapsTo(int bar) {
            if (bar < 1) {
                return 0;
            }
            int upperLeap = stepTo(UPPER, bar) > WIDEST_STEP ? 1 : 0;
            int lowerLeap = stepTo(LOWER, bar) > WIDEST_STEP ? 1 : 0;
            return upperLeap + lowerLeap;
        }

        private int badEndsAt(int bar) {
            if (isPerfect(interval(bar))) {
                return 0;
            }
            int firstEnd = bar == 0 ? 1 : 0;
            int lastEnd = bar == bars - 1 ? 1 : 0;
            return firstEnd + lastEnd;
        }

        private boolean isStanding(int bar) {
            return bar >= 2 && stepTo(UPPER, bar) == 0 && stepTo(UPPER, bar - 1) == 0;
        }
    }

    /** A score with its place among the versions. */
    private static final class Version {
        private final int number;
        private final Version parent;
        private final Score score = new Score();
        private boolean fixed = false;
        private boolean passedWhenHandedIn = false;

        Version(int number, Version parent) {
            this.number = number;
            this.parent = parent;
        }
    }

    /** One voice as it was printed, with the slips put in since. */
    private static final class Copy {
        private final int voice;
        private final int bars;
        private final int[] tones = new int[MAX_BARS];
        private int slipCount = 0;

        Copy(int voice, Score score) {
            this.voice = voice;
            this.bars = score.bars;
            takeVoice(score);
        }

        void takeVoice(Score score) {
            for (int bar = 0; bar < bars && bar < tones.length; bar++) {
                tones[bar] = score.tone(voice, bar);
            }
        }

        int differingBars(Score score) {
            int set = 0;
            for (int bar = 0; bar < bars && bar < tones.length; bar++) {
                if (tones[bar] != score.tone(voice, bar)) {
                    set |= 1 << bar;
                }
            }
            return set;
        }
    }
}
