import java.util.ArrayList;
import java.util.HashMap;
import java.util.List;
import java.util.Map;
import java.util.TreeMap;
import java.util.TreeSet;

/**
 * The document once more, in another way than the program: what is kept is a map from which the
 * rest is thrown out behind each change, and each turn is tried by its rules one after another.
 */
final class HouseModel {
    private static final int BAD = -1;
    private static final int NO = -2;
    private static final int FULL = -3;

    private final TreeMap<Integer, int[]> kept = new TreeMap<>();
    private final List<Map<String, Integer>> workers = new ArrayList<>();
    private final Map<Integer, int[]> ownCells = new HashMap<>();
    private final Map<Integer, Integer> pins = new HashMap<>();
    private final List<int[]> ends = new ArrayList<>();
    private int versions = 1;
    private boolean open = true;
    private int did;
    private int waited;

    HouseModel() {
        kept.put(0, new int[16]);
    }

    int put(int cell, int v) {
        if (outside(cell, 0, 15)) {
            return BAD;
        }
        if (workers.size() > 0) {
            return NO;
        }
        kept.get(0)[cell] = v;
        return 1;
    }

    int question(int steps, int failsAt, int first) {
        if (outside(steps, 1, 20) || outside(failsAt, 0, 30) || outside(first, 0, 15)) {
            return BAD;
        }
        int number = begin(0, steps, failsAt, first, 0, versions - 1);
        if (number >= 0) {
            pins.put(number, versions - 1);
        }
        return number;
    }

    int writer(int steps, int failsAt, int first, int by) {
        if (outside(steps, 1, 20) || outside(failsAt, 0, 30) || outside(first, 0, 15)) {
            return BAD;
        }
        int number = begin(1, steps, failsAt, first, by, -1);
        if (number >= 0) {
            ownCells.put(number, new int[16]);
        }
        return number;
    }

    int reason(int rounds, int failsAt) {
        if (outside(rounds, 1, 20) || outside(failsAt, 0, 30)) {
            return BAD;
        }
        return begin(2, rounds, failsAt, 0, 0, -1);
    }

    int stream() {
        return begin(3, Integer.MAX_VALUE, 0, 0, 0, versions - 1);
    }

    int turn(int work) {
        if (outside(work, 0, workers.size() - 1)) {
            return BAD;
        }
        if (get(work, "end") != 0) {
            return 0;
        }
        int how = outcome(work);
        if (how == 0) {
            waited++;
            return 0;
        }
        did++;
        perform(work, how);
        throwOut();
        return how;
    }

    int run(int most) {
        if (outside(most, 0, 1000)) {
            return BAD;
        }
        int all = 0;
        boolean some = true;
        while (some && all < most) {
            some = false;
            for (int i = 0; i < workers.size(); i++) {
                if (all == most) {
                    return all;
                }
                if (turn(i) > 0) {
                    all++;
                    some = true;
                }
            }
        }
        return all;
    }

    int cancel(int work) {
        if (outside(work, 0, workers.size() - 1)) {
            return BAD;
        }
        if (get(work, "end") != 0 || get(work, "cancel") != 0) {
            return 0;
        }
        workers.get(work).put("cancel", 1);
        return 1;
    }

    int close() {
        if (!open) {
            return NO;
        }
        open = false;
        int before = ends.size();
        for (int i = 0; i < workers.size(); i++) {
            if (get(i, "end") == 0) {
                endOf(i, 4);
            }
        }
        throwOut();
        return ends.size() - before;
    }

    int told(int work, int what) {
        if (outside(work, 0, workers.size() - 1) || outside(what, 0, 5)) {
            return BAD;
        }
        if (what == 5) {
            return get(work, "end") != 0 || outcome(work) == 0 ? 1 : 0;
        }
        return get(work, new String[] {"kind", "end", "done", "answer", "version"}[what]);
    }

    int ended(int i, int what) {
        if (outside(what, 0, 2)) {
            return BAD;
        }
        return outside(i, 0, ends.size() - 1) ? NO : ends.get(i)[what];
    }

    int cell(int version, int cell) {
        if (outside(version, 0, versions - 1) || outside(cell, 0, 15)) {
            return BAD;
        }
        int[] cells = kept.get(version);
        return cells == null ? NO : cells[cell];
    }

    int count(int what) {
        if (outside(what, 0, 5)) {
            return BAD;
        }
        int pinned = new TreeSet<>(pins.values()).size();
        return new int[] {versions, kept.size(), pinned, did, waited, workers.size() - ends.size()}[what];
    }

    private static boolean outside(int a, int least, int most) {
        return a < least || a > most;
    }

    private int get(int work, String what) {
        return workers.get(work).get(what);
    }

    private int begin(int kind, int steps, int failsAt, int first, int by, int version) {
        if (!open) {
            return NO;
        }
        if (workers.size() == 30) {
            return FULL;
        }
        Map<String, Integer> w = new HashMap<>();
        w.put("kind", kind);
        w.put("steps", steps);
        w.put("failsAt", failsAt);
        w.put("first", first);
        w.put("by", by);
        w.put("version", version);
        w.put("end", 0);
        w.put("done", 0);
        w.put("answer", 0);
        w.put("cancel", 0);
        workers.add(w);
        return workers.size() - 1;
    }

    private boolean lesserHaveEnded(int work) {
        for (int i = 0; i < work; i++) {
            int kind = get(i, "kind");
            if ((kind == 1 || kind == 2) && get(i, "end") == 0) {
                return false;
            }
        }
        return true;
    }

    /** What a turn of a worker that has not ended would answer; it changes nothing. */
    private int outcome(int work) {
        if (get(work, "cancel") == 1) {
            return 4;
        }
        int kind = get(work, "kind");
        int next = get(work, "done") + 1;
        int steps = get(work, "steps");
        if (next > steps) {
            return lesserHaveEnded(work) ? 2 : 0;
        }
        if (kind == 2 && next == 1 && !lesserHaveEnded(work)) {
            return 0;
        }
        if (kind == 3 && get(work, "version") == versions - 1) {
            return 0;
        }
        if (next == get(work, "failsAt")) {
            return 3;
        }
        return kind == 0 && next == steps ? 2 : 1;
    }

    private void perform(int work, int how) {
        if (how == 1 || how == 2 && get(work, "kind") == 0) {
            step(work);
        } else if (how == 2) {
            commit(work);
        }
        if (how != 1) {
            endOf(work, how);
        }
    }

    private void step(int work) {
        Map<String, Integer> w = workers.get(work);
        int done = w.get("done");
        int cell = (w.get("first") + done) % 16;
        w.put("done", done + 1);
        switch (w.get("kind")) {
            case 0 -> w.put("answer", 31 * w.get("answer") + kept.get(pins.get(work))[cell]);
            case 1 -> ownCells.get(work)[cell] += w.get("by");
            case 2 -> round(work, done == 0);
            default -> {
                int version = w.get("version") + 1;
                int answer = 31 * w.get("answer");
                for (int v : kept.get(version)) {
                    answer += v;
                }
                w.put("answer", answer);
                w.put("version", version);
            }
        }
    }

    private void round(int work, boolean isFirst) {
        if (isFirst) {
            ownCells.put(work, kept.get(versions - 1).clone());
            pins.put(work, versions - 1);
        }
        int[] old = ownCells.get(work).clone();
        for (int i = 0; i < 16; i++) {
            ownCells.get(work)[i] = Math.max(old[i], old[(i + 15) % 16]);
        }
    }

    private void commit(int work) {
        int[] cells = ownCells.get(work).clone();
        if (get(work, "kind") == 1) {
            for (int i = 0; i < 16; i++) {
                cells[i] += kept.get(versions - 1)[i];
            }
        }
        workers.get(work).put("version", versions);
        kept.put(versions, cells);
        versions++;
    }

    private void endOf(int work, int how) {
        workers.get(work).put("end", how);
        ends.add(new int[] {work, how, did});
        pins.remove(work);
        ownCells.remove(work);
    }

    private void throwOut() {
        int behind = versions;
        for (Map<String, Integer> w : workers) {
            if (w.get("kind") == 3 && w.get("end") == 0) {
                behind = Math.min(behind, w.get("version") + 1);
            }
        }
        int notGot = behind;
        kept.keySet().removeIf(v -> v != versions - 1 && v < notGot && !pins.containsValue(v));
    }
}
