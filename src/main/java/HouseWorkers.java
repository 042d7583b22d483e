import java.util.ArrayList;

/**
 * Workers of a house that step by turns under one monitor: questions on versions that they pin,
 * writers and rounds of reasoning that commit by their numbers, streams that get each version once.
 */
public final class HouseWorkers {
    public static final int BAD = -1;
    public static final int NO = -2;
    public static final int FULL = -3;

    private static final int CELLS = 16;
    private static final int LAST_CELL = CELLS - 1;
    private static final int MOST_WORKERS = 30;
    private static final int MOST_STEPS = 20;
    private static final int MOST_FAILS_AT = 30;
    private static final int MOST_TURNS = 1000;

    private static final int KIND_QUESTION = 0;
    private static final int KIND_WRITER = 1;
    private static final int KIND_REASONING = 2;
    private static final int KIND_STREAM = 3;

    // One row of numbers for what a turn answers and for how a worker ended: they are the same.
    private static final int NOTHING = 0;
    private static final int GOES_ON = 1;
    private static final int DONE = 2;
    private static final int FAILED = 3;
    private static final int CANCELLED = 4;

    private static final int NO_VERSION = -1;

    private final Store store;
    private final ArrayList<Work> works;
    private final ArrayList<Work> ends;
    private boolean closed;
    private int turnsThatDid;
    private int turnsThatWaited;

    public HouseWorkers() {
        store = new Store();
        works = new ArrayList<>();
        ends = new ArrayList<>();
    }

    public int put(int cell, int v) {
        if (!isCell(cell)) {
            return BAD;
        }
        if (!works.isEmpty()) {
            return NO;
        }
        // Nothing has begun, so nothing was committed: the latest version is version 0.
        store.latest().set(cell, v);
        return 1;
    }

    public int question(int steps, int failsAt, int first) {
        if (!areSteps(steps) || !isFailsAt(failsAt) || !isCell(first)) {
            return BAD;
        }
        int number = nextNumber();
        if (number >= 0) {
            works.add(new QuestionWork(number, steps, failsAt, first, store));
        }
        return number;
    }

    public int writer(int steps, int failsAt, int first, int by) {
        if (!areSteps(steps) || !isFailsAt(failsAt) || !isCell(first)) {
            return BAD;
        }
        int number = nextNumber();
        if (number >= 0) {
            works.add(new WriterWork(number, steps, failsAt, first, by));
        }
        return number;
    }

    public int reason(int rounds, int failsAt) {
        if (!areSteps(rounds) || !isFailsAt(failsAt)) {
            return BAD;
        }
        int number = nextNumber();
        if (number >= 0) {
            works.add(new ReasoningWork(number, rounds, failsAt));
        }
        return number;
    }

    public int stream() {
        int number = nextNumber();
        if (number >= 0) {
            works.add(new StreamWork(number, store));
        }
        return number;
    }

    public int turn(int work) {
        Work w = find(work);
        if (w == null) {
            return BAD;
        }
        return giveTurn(w);
    }

    public int run(int most) {
        if (most < 0 || most > MOST_TURNS) {
            return BAD;
        }
        int did = 0;
        // Each row but the last one does something, so there are never more rows than turns asked for.
        for (int row = 0; row < most; row++) {
            int inRow = giveRow(most - did);
            if (inRow == 0) {
                break;
            }
            did += inRow;
        }
        return did;
    }

    public int cancel(int work) {
        Work w = find(work);
        if (w == null) {
            return BAD;
        }
        if (w.hasEnded() || w.toBeCancelled) {
            return 0;
        }
        w.toBeCancelled = true;
        return 1;
    }

    public int close() {
        if (closed) {
            return NO;
        }
        closed = true;
        int cancelled = 0;
        for (int i = 0; i < works.size(); i++) {
            Work w = works.get(i);
            if (!w.hasEnded()) {
                endWork(w, CANCELLED);
                cancelled++;
            }
        }
        return cancelled;
    }

    public int told(int work, int what) {
        Work w = find(work);
        if (w == null) {
            return BAD;
        }
        switch (what) {
            case 0:
                return w.kind;
            case 1:
                return w.end;
            case 2:
                return w.stepsDone;
            case 3:
                return w.answer;
            case 4:
                return w.version;
            case 5:
                return standsStill(w) ? 1 : 0;
            default:
                return BAD;
        }
    }

    public int ended(int i, int what) {
        if (what < 0 || what > 2) {
            return BAD;
        }
        if (i < 0 || i >= ends.size()) {
            return NO;
        }
        Work w = ends.get(i);
        if (what == 0) {
            return w.number;
        }
        return what == 1 ? w.end : w.turnsAtEnd;
    }

    public int cell(int version, int cell) {
        Cells cells = store.find(version);
        if (cells == null || !isCell(cell)) {
            return BAD;
        }
        if (!isKept(version)) {
            return NO;
        }
        return cells.at(cell);
    }

    public int count(int what) {
        switch (what) {
            case 0:
                return store.size();
            case 1:
                return countKept();
            case 2:
                return countPinned();
            case 3:
                return turnsThatDid;
            case 4:
                return turnsThatWaited;
            case 5:
                return works.size() - ends.size();
            default:
                return BAD;
        }
    }

    private static boolean isCell(int cell) {
        return cell >= 0 && cell < CELLS;
    }

    private static boolean areSteps(int steps) {
        return steps >= 1 && steps <= MOST_STEPS;
    }

    private static boolean isFailsAt(int failsAt) {
        return failsAt >= 0 && failsAt <= MOST_FAILS_AT;
    }

    /** The number of a worker that would begin now, or NO or FULL. */
    private int nextNumber() {
        if (closed) {
            return NO;
        }
        return works.size() < MOST_WORKERS ? works.size() : FULL;
    }

    private Work find(int work) {
        if (work < 0 || work >= works.size()) {
            return null;
        }
        return works.get(work);
    }

    /** Turns for all by their numbers, until so many did something: how many did. */
    private int giveRow(int most) {
        int did = 0;
        for (int i = 0; i < works.size() && did < most; i++) {
            if (giveTurn(works.get(i)) != NOTHING) {
                did++;
            }
        }
        return did;
    }

    private int giveTurn(Work w) {
        if (w.hasEnded()) {
            return NOTHING;
        }
        if (standsStill(w)) {
            turnsThatWaited++;
            return NOTHING;
        }
        // Counted before the end is written down: an end counts its own turn too.
        turnsThatDid++;
        int outcome = act(w);
        if (outcome != GOES_ON) {
            endWork(w, outcome);
        }
        return outcome;
    }

    private int act(Work w) {
        if (w.toBeCancelled) {
            return CANCELLED;
        }
        return w.failsNow() ? FAILED : w.goOn(store);
    }

    private boolean standsStill(Work w) {
        if (w.hasEnded()) {
            return true;
        }
        return !w.toBeCancelled && w.waits(store, hasNobodyBefore(w));
    }

    private boolean hasNobodyBefore(Work w) {
        for (int i = 0; i < w.number && i < works.size(); i++) {
            Work lesser = works.get(i);
            if (lesser.commits() && !lesser.hasEnded()) {
                return false;
            }
        }
        return true;
    }

    private void endWork(Work w, int how) {
        w.end = how;
        w.turnsAtEnd = turnsThatDid;
        ends.add(w);
    }

    // What is no longer kept never comes back: only the latest version is ever pinned anew, and
    // streams look only behind it. So it is asked of the workers, and not held.
    private boolean isKept(int version) {
        if (version == store.latestNumber() || isPinned(version)) {
            return true;
        }
        for (int i = 0; i < works.size(); i++) {
            if (works.get(i).isToGet(version)) {
                return true;
            }
        }
        return false;
    }

    private boolean isPinned(int version) {
        for (int i = 0; i < works.size(); i++) {
            if (works.get(i).pins(version)) {
                return true;
            }
        }
        return false;
    }

    private int countKept() {
        int kept = 0;
        for (int version = 0; version < store.size(); version++) {
            if (isKept(version)) {
                kept++;
            }
        }
        return kept;
    }

    private int countPinned() {
        int pinned = 0;
        for (int version = 0; version < store.size(); version++) {
            if (isPinned(version)) {
                pinned++;
            }
        }
        return pinned;
    }

    /** Sixteen numbers: those of a version, a writer's draft, or a reasoning's own. */
    private static final class Cells {
        private final int[] row = new int[CELLS];

        // The mask is the document's modulo 16, and keeps every index within the row.
        int at(int cell) {
            return row[cell & LAST_CELL];
        }

        void set(int cell, int v) {
            row[cell & LAST_CELL] = v;
        }

        void add(int cell, int by) {
            row[cell & LAST_CELL] += by;
        }

        void addAll(Cells other) {
            for (int i = 0; i < CELLS; i++) {
                row[i] += other.row[i];
            }
        }

        void takeAll(Cells other) {
            for (int i = 0; i < CELLS; i++) {
                row[i] = other.row[i];
            }
        }

        /** A round of reasoning. */
        void spread() {
            // All cells change at the same time, so the one before is taken as it was.
            int before = row[LAST_CELL];
            for (int i = 0; i < CELLS; i++) {
                int own = row[i];
                row[i] = Math.max(own, before);
                before = own;
            }
        }

        int sum() {
            int sum = 0;
            for (int i = 0; i < CELLS; i++) {
                sum += row[i];
            }
            return sum;
        }
    }

    /** The versions; at most one more than there are workers, as each commits once. */
    private static final class Store {
        private final Cells start = new Cells();
        private final ArrayList<Cells> committed = new ArrayList<>();
        private Cells latest = start;

        Cells latest() {
            return latest;
        }

        int latestNumber() {
            return committed.size();
        }

        int size() {
            return committed.size() + 1;
        }

        /** The cells of a version, or null if there was no such one so far. */
        Cells find(int version) {
            if (version == 0) {
                return start;
            }
            if (version < 0 || version > committed.size()) {
                return null;
            }
            return committed.get(version - 1);
        }

        /** The cells become the latest version: its number. Who commits them leaves them alone then. */
        int commit(Cells cells) {
            committed.add(cells);
            latest = cells;
            return committed.size();
        }
    }

    /** A worker; what its kind does is in the classes below. */
    private abstract static class Work {
        final int number;
        final int kind;
        final int steps;
        final int failsAt;
        int stepsDone;
        int answer;
        int version = NO_VERSION;
        int pinned = NO_VERSION;
        boolean toBeCancelled;
        int end = NOTHING;
        int turnsAtEnd;

        Work(int number, int kind, int steps, int failsAt) {
            this.number = number;
            this.kind = kind;
            this.steps = steps;
            this.failsAt = failsAt;
        }

        /** Whether it can't go on now; nobodyBefore: no worker with a lesser number has still to commit. */
        abstract boolean waits(Store store, boolean nobodyBefore);

        /** A step, or the commit behind the last one: GOES_ON or DONE. */
        abstract int goOn(Store store);

        /** Whether it is a stream that has still to get that version. */
        boolean isToGet(int version) {
            return false;
        }

        boolean commits() {
            return kind == KIND_WRITER || kind == KIND_REASONING;
        }

        boolean hasEnded() {
            return end != NOTHING;
        }

        boolean hasDoneAllSteps() {
            return stepsDone >= steps;
        }

        // A commit is no step: whoever would fail behind the last step never comes to that.
        boolean failsNow() {
            return failsAt == stepsDone + 1 && !hasDoneAllSteps();
        }

        boolean pins(int version) {
            return !hasEnded() && pinned == version;
        }
    }

    private static final class QuestionWork extends Work {
        private final int first;
        private final Cells read;

        QuestionWork(int number, int steps, int failsAt, int first, Store store) {
            super(number, KIND_QUESTION, steps, failsAt);
            this.first = first;
            read = store.latest();
            version = store.latestNumber();
            pinned = version;
        }

        boolean waits(Store store, boolean nobodyBefore) {
            return false;
        }

        int goOn(Store store) {
            answer = 31 * answer + read.at(first + stepsDone);
            stepsDone++;
            return hasDoneAllSteps() ? DONE : GOES_ON;
        }
    }

    private static final class WriterWork extends Work {
        private final int first;
        private final int by;
        private final Cells draft = new Cells();

        WriterWork(int number, int steps, int failsAt, int first, int by) {
            super(number, KIND_WRITER, steps, failsAt);
            this.first = first;
            this.by = by;
        }

        boolean waits(Store store, boolean nobodyBefore) {
            return hasDoneAllSteps() && !nobodyBefore;
        }

        int goOn(Store store) {
            if (hasDoneAllSteps()) {
                draft.addAll(store.latest());
                version = store.commit(draft);
                return DONE;
            }
            draft.add(first + stepsDone, by);
            stepsDone++;
            return GOES_ON;
        }
    }

    private static final class ReasoningWork extends Work {
        private final Cells cells = new Cells();

        ReasoningWork(int number, int rounds, int failsAt) {
            super(number, KIND_REASONING, rounds, failsAt);
        }

        // Behind its first round nobody lesser is left, so that it never waits again.
        boolean waits(Store store, boolean nobodyBefore) {
            return stepsDone == 0 && !nobodyBefore;
        }

        int goOn(Store store) {
            if (hasDoneAllSteps()) {
                version = store.commit(cells);
                return DONE;
            }
            if (stepsDone == 0) {
                cells.takeAll(store.latest());
                pinned = store.latestNumber();
            }
            cells.spread();
            stepsDone++;
            return GOES_ON;
        }
    }

    private static final class StreamWork extends Work {
        StreamWork(int number, Store store) {
            super(number, KIND_STREAM, 0, 0);
            version = store.latestNumber();
        }

        boolean waits(Store store, boolean nobodyBefore) {
            return version >= store.latestNumber();
        }

        int goOn(Store store) {
            Cells next = store.find(version + 1);
            if (next != null) {
                answer = 31 * answer + next.sum();
                version++;
                stepsDone++;
            }
            return GOES_ON;
        }

        boolean isToGet(int version) {
            return !hasEnded() && version > this.version;
        }
    }
}
