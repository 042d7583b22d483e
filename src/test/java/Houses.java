/** What the tests share: names for the document's numbers, houses to begin with, and runs of calls. */
abstract class Houses {
    static final int BAD = -1;
    static final int NO = -2;
    static final int FULL = -3;
    static final int MIN = Integer.MIN_VALUE;
    static final int MAX = Integer.MAX_VALUE;

    static final int WAITS = 0;
    static final int GOES_ON = 1;
    static final int DONE = 2;
    static final int FAILED = 3;
    static final int CANCELLED = 4;

    static final int KIND = 0;
    static final int END = 1;
    static final int STEPS = 2;
    static final int ANSWER = 3;
    static final int VERSION = 4;
    static final int STILL = 5;

    static final int WHO = 0;
    static final int HOW = 1;
    static final int WHEN = 2;

    static final int VERSIONS = 0;
    static final int KEPT = 1;
    static final int PINNED = 2;
    static final int DID = 3;
    static final int WAITED = 4;
    static final int GO_ON = 5;

    static HouseWorkers squares() {
        HouseWorkers x = new HouseWorkers();
        for (int i = 0; i < 16; i++) {
            x.put(i, i * i);
        }
        return x;
    }

    /** A writer begins, adds to one cell, and commits if no lesser one stands before it: its number. */
    static int write(HouseWorkers x, int cell, int by) {
        int number = x.writer(1, 0, cell, by);
        x.turn(number);
        x.turn(number);
        return number;
    }

    /** One of each kind begins, none of which fails or is through within two turns. */
    static void oneOfEachKind(HouseWorkers x) {
        x.question(3, 0, 0);
        x.writer(3, 0, 0, 1);
        x.reason(3, 0);
        x.stream();
    }

    static void cancelNow(HouseWorkers x, int work) {
        x.cancel(work);
        x.turn(work);
    }

    /** All that a house of so many workers tells but how often one waited, in words to compare. */
    static String all(HouseWorkers x, int workers) {
        StringBuilder said = new StringBuilder();
        for (int work = 0; work < workers; work++) {
            for (int what = KIND; what <= STILL; what++) {
                said.append(x.told(work, what)).append(' ');
            }
            for (int what = WHO; what <= WHEN; what++) {
                said.append(x.ended(work, what)).append(' ');
            }
        }
        for (int version = 0; version < x.count(VERSIONS); version++) {
            for (int cell = 0; cell < 16; cell++) {
                said.append(x.cell(version, cell)).append(' ');
            }
        }
        for (int what : new int[] {VERSIONS, KEPT, PINNED, DID, GO_ON}) {
            said.append(x.count(what)).append(' ');
        }
        return said.toString();
    }
}
