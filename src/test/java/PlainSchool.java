import java.util.ArrayList;
import java.util.HashSet;
import java.util.List;
import java.util.Set;
import java.util.TreeSet;

/** The document once more, as plainly as it can be said, for RandomRunsTest to compare with. */
final class PlainSchool {
    private final List<int[][]> scores = new ArrayList<>(); // a version's bars, each {upper, lower}
    private final List<Integer> parents = new ArrayList<>();
    private final Set<Integer> unchangeable = new HashSet<>();
    private final Set<Integer> passed = new HashSet<>();
    private final List<int[]> copies = new ArrayList<>();
    private final List<Integer> copyVoices = new ArrayList<>();
    private final List<Integer> copySlips = new ArrayList<>();
    private final int[] weights = {5, 5, 5, 5, 5, 5};
    private int passMark = 60;

    int begin(int bars) {
        argument(bars >= 1 && bars <= 12);
        state(scores.size() < 30);
        int[][] score = new int[bars][];
        for (int bar = 0; bar < bars; bar++) {
            score[bar] = new int[] {20, 20};
        }
        return add(score, -1);
    }

    int branch(int version) {
        version(version);
        state(scores.size() < 30);
        unchangeable.add(version);
        return add(copyOf(scores.get(version)), version);
    }

    int setNote(int version, int voice, int bar, int note) {
        place(version, voice, bar);
        argument(note >= 0 && note <= 40);
        state(!unchangeable.contains(version));
        int before = scores.get(version)[bar][voice];
        scores.get(version)[bar][voice] = note;
        return before;
    }

    int note(int version, int voice, int bar) {
        place(version, voice, bar);
        return scores.get(version)[bar][voice];
    }

    int base(int one, int other) {
        version(one);
        version(other);
        TreeSet<Integer> common = ancestors(one);
        common.retainAll(ancestors(other));
        return common.isEmpty() ? -1 : common.last();
    }

    int conflicts(int one, int other) {
        int base = base(one, other);
        state(base >= 0);
        int set = 0;
        for (int bar = 0; bar < scores.get(one).length; bar++) {
            Set<Integer> different = new HashSet<>();
            for (int version : new int[] {one, other, base}) {
                different.add(inOne(version, bar));
            }
            set += different.size() == 3 ? 1 << bar : 0;
        }
        return set;
    }

    int merge(int one, int other) {
        int base = base(one, other);
        argument(one != other);
        state(base >= 0 && scores.size() < 30);
        int[][] score = new int[scores.get(one).length][];
        for (int bar = 0; bar < score.length; bar++) {
            int from;
            if (inOne(one, bar) == inOne(other, bar)) {
                from = other;
            } else if (inOne(one, bar) == inOne(base, bar)) {
                from = other;
            } else {
                from = one;
            }
            score[bar] = scores.get(from)[bar].clone();
        }
        unchangeable.add(one);
        unchangeable.add(other);
        return add(score, one);
    }

    int setWeight(int rule, int weight) {
        bounds(rule >= 0 && rule <= 5);
        argument(weight >= 0 && weight <= 50);
        int before = weights[rule];
        weights[rule] = weight;
        return before;
    }

    int setPass(int mark) {
        argument(mark >= 0 && mark <= 100);
        int before = passMark;
        passMark = mark;
        return before;
    }

    int faults(int version, int bar, int rule) {
        place(version, 0, bar);
        bounds(rule >= 0 && rule <= 5);
        return found(scores.get(version), bar, rule);
    }

    int mark(int version) {
        version(version);
        return Math.max(100 - weighed(scores.get(version)), 0);
    }

    boolean handIn(int version) {
        passed.remove(version);
        if (mark(version) >= passMark) {
            passed.add(version);
        }
        return passed.contains(version);
    }

    int fallen() {
        int set = 0;
        for (int version : passed) {
            set += mark(version) < passMark ? 1 << version : 0;
        }
        return set;
    }

    int best(int version, int voice, int bar) {
        place(version, voice, bar);
        int best = -1;
        int least = 0;
        for (int note = 40; note >= 0; note--) {
            int[][] score = copyOf(scores.get(version));
            score[bar][voice] = note;
            int sum = weighed(score);
            if (best < 0 || sum <= least) {
                best = note;
                least = sum;
            }
        }
        return best;
    }

    float movement(int version, int voice) {
        place(version, voice, 0);
        int[][] score = scores.get(version);
        int sum = 0;
        for (int bar = 1; bar < score.length; bar++) {
            sum += Math.abs(score[bar][voice] - score[bar - 1][voice]);
        }
        return score.length == 1 ? 0 : (float) sum / (float) (score.length - 1);
    }

    int print(int version, int voice) {
        place(version, voice, 0);
        state(copies.size() < 20);
        unchangeable.add(version);
        copies.add(voiceOf(version, voice));
        copyVoices.add(voice);
        copySlips.add(0);
        return copies.size() - 1;
    }

    int errata(int copy, int version) {
        bounds(copy >= 0 && copy < copies.size());
        version(version);
        int[] wanted = voiceOf(version, copyVoices.get(copy));
        state(wanted.length == copies.get(copy).length);
        int set = 0;
        for (int bar = 0; bar < wanted.length; bar++) {
            set += wanted[bar] == copies.get(copy)[bar] ? 0 : 1 << bar;
        }
        return set;
    }

    int slip(int copy, int version) {
        int changed = Integer.bitCount(errata(copy, version));
        copies.set(copy, voiceOf(version, copyVoices.get(copy)));
        copySlips.set(copy, copySlips.get(copy) + changed);
        return changed;
    }

    int slips(int copy) {
        bounds(copy >= 0 && copy < copies.size());
        return copySlips.get(copy);
    }

    private int add(int[][] score, int parent) {
        scores.add(score);
        parents.add(parent);
        return scores.size() - 1;
    }

    private TreeSet<Integer> ancestors(int version) {
        TreeSet<Integer> all = new TreeSet<>();
        for (int each = version; each >= 0; each = parents.get(each)) {
            all.add(each);
        }
        return all;
    }

    private int inOne(int version, int bar) {
        return scores.get(version)[bar][0] * 100 + scores.get(version)[bar][1];
    }

    private int[] voiceOf(int version, int voice) {
        int[] notes = new int[scores.get(version).length];
        for (int bar = 0; bar < notes.length; bar++) {
            notes[bar] = scores.get(version)[bar][voice];
        }
        return notes;
    }

    private int weighed(int[][] score) {
        int sum = 0;
        for (int bar = 0; bar < score.length; bar++) {
            for (int rule = 0; rule <= 5; rule++) {
                sum += weights[rule] * found(score, bar, rule);
            }
        }
        return sum;
    }

    private static int found(int[][] score, int bar, int rule) {
        int upper = score[bar][0];
        int lower = score[bar][1];
        int interval = Math.abs(upper - lower) % 12;
        boolean perfect = interval == 0 || interval == 7;
        int[] before = bar > 0 ? score[bar - 1] : null;
        switch (rule) {
            case 0:
                return List.of(1, 2, 5, 6, 10, 11).contains(interval) ? 1 : 0;
            case 1:
                return before != null && before[0] != upper && before[1] != lower && perfect
                        && Math.abs(before[0] - before[1]) % 12 == interval ? 1 : 0;
            case 2:
                return before == null ? 0
                        : (Math.abs(before[0] - upper) > 9 ? 1 : 0) + (Math.abs(before[1] - lower) > 9 ? 1 : 0);
            case 3:
                return upper < lower ? 1 : 0;
            case 4:
                return perfect ? 0 : (bar == 0 ? 1 : 0) + (bar == score.length - 1 ? 1 : 0);
            default:
                return bar > 1 && upper == before[0] && upper == score[bar - 2][0] ? 1 : 0;
        }
    }

    private static int[][] copyOf(int[][] score) {
        int[][] copy = new int[score.length][];
        for (int bar = 0; bar < score.length; bar++) {
            copy[bar] = score[bar].clone();
        }
        return copy;
    }

    private void version(int version) {
        bounds(version >= 0 && version < scores.size());
    }

    private void place(int version, int voice, int bar) {
        version(version);
        bounds(voice == 0 || voice == 1);
        bounds(bar >= 0 && bar < scores.get(version).length);
    }

    private static void bounds(boolean fine) {
        if (!fine) {
            throw new IndexOutOfBoundsException();
        }
    }

    private static void argument(boolean fine) {
        if (!fine) {
            throw new IllegalArgumentException();
        }
    }

    private static void state(boolean fine) {
        if (!fine) {
            throw new IllegalStateException();
        }
    }
}
