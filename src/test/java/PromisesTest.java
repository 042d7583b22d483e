/** Each promise of the document with ordinary inputs, the edges it names, and wrong inputs. */
public final class PromisesTest extends Houses {
    private static final Due DUE = new Due("PromisesTest");

    public static void main(String[] args) {
        newObject();
        putCells();
        putIsRefused();
        questionReads();
        questionWraps();
        questionPins();
        beginningIsRefused();
        writerCommits();
        writersCommitByTheirNumbers();
        writerFails();
        reasoningSpreads();
        reasoningWaits();
        reasoningFails();
        reasoningPins();
        streamGetsEachVersionOnce();
        streamKeepsVersions();
        turnAnswers();
        runGoesByRows();
        runStopsInTheMidst();
        cancelTakesTheNextTurn();
        cancelFreesWhoWaits();
        closeCancelsAll();
        closeWithoutWorkers();
        toldOfEachKind();
        endedInTheirOrder();
        cellsThatAreGone();
        countsOfAll();
        wrongInputs();
        DUE.close();
    }

    private static void newObject() {
        HouseWorkers x = new HouseWorkers();
        DUE.is("BAD", -1, HouseWorkers.BAD);
        DUE.is("NO", -2, HouseWorkers.NO);
        DUE.is("FULL", -3, HouseWorkers.FULL);
        for (int i = 0; i < 16; i++) {
            DUE.is("new: cell", 0, x.cell(0, i));
        }
        DUE.is("new: versions", 1, x.count(VERSIONS));
        DUE.is("new: kept", 1, x.count(KEPT));
        DUE.is("new: pinned", 0, x.count(PINNED));
        DUE.is("new: did", 0, x.count(DID));
        DUE.is("new: waited", 0, x.count(WAITED));
        DUE.is("new: go on", 0, x.count(GO_ON));
        DUE.is("new: ended", NO, x.ended(0, 0));
        DUE.is("new: turn", BAD, x.turn(0));
        DUE.is("new: run", 0, x.run(1000));
        DUE.is("new: open", 0, x.stream());
        HouseWorkers y = new HouseWorkers();
        DUE.is("new: another is another", 0, y.count(GO_ON));
    }

    private static void putCells() {
        HouseWorkers x = new HouseWorkers();
        DUE.is("put 0", 1, x.put(0, MIN));
        DUE.is("put 15", 1, x.put(15, MAX));
        DUE.is("put 7", 1, x.put(7, 3));
        DUE.is("put 7 again", 1, x.put(7, -4));
        DUE.is("cell 0", MIN, x.cell(0, 0));
        DUE.is("cell 15", MAX, x.cell(0, 15));
        DUE.is("cell 7", -4, x.cell(0, 7));
        DUE.is("cell 8", 0, x.cell(0, 8));
        DUE.is("put makes no version", 1, x.count(VERSIONS));
    }

    private static void putIsRefused() {
        HouseWorkers x = new HouseWorkers();
        DUE.is("put -1", BAD, x.put(-1, 5));
        DUE.is("put 16", BAD, x.put(16, 5));
        DUE.is("put MIN", BAD, x.put(MIN, 5));
        DUE.is("a question that was BAD", BAD, x.question(0, 0, 0));
        DUE.is("put when none began", 1, x.put(3, 5));
        DUE.is("begin", 0, x.stream());
        DUE.is("put too late", NO, x.put(3, 6));
        DUE.is("put too late and no cell", BAD, x.put(16, 6));
        x.cancel(0);
        x.turn(0);
        DUE.is("put when all ended", NO, x.put(3, 6));
        DUE.is("the cell stays", 5, x.cell(0, 3));
    }

    private static void questionReads() {
        HouseWorkers x = squares();
        DUE.is("question", 0, x.question(4, 0, 14));
        DUE.is("step 1", 1, x.turn(0));
        DUE.is("answer 1", 196, x.told(0, ANSWER));
        DUE.is("step 2", 1, x.turn(0));
        DUE.is("answer 2", 196 * 31 + 225, x.told(0, ANSWER));
        DUE.is("step 3", 1, x.turn(0));
        DUE.is("answer 3", (196 * 31 + 225) * 31, x.told(0, ANSWER));
        DUE.is("step 4", 2, x.turn(0));
        DUE.is("answer 4", ((196 * 31 + 225) * 31) * 31 + 1, x.told(0, ANSWER));
        DUE.is("ended", 0, x.turn(0));
        DUE.is("steps", 4, x.told(0, STEPS));
        HouseWorkers y = squares();
        DUE.is("one step", 0, y.question(1, 0, 5));
        DUE.is("done with the only step", 2, y.turn(0));
        DUE.is("its answer", 25, y.told(0, ANSWER));
    }

    private static void questionWraps() {
        HouseWorkers x = new HouseWorkers();
        x.put(0, MAX);
        x.put(1, MAX);
        x.question(20, 0, 15);
        x.question(20, 30, 0);
        int answer = 0;
        for (int k = 0; k < 20; k++) {
            int cell = (15 + k) % 16;
            answer = 31 * answer + (cell < 2 ? MAX : 0);
            DUE.is("twenty steps", k == 19 ? 2 : 1, x.turn(0));
            DUE.is("twenty answers", answer, x.told(0, ANSWER));
            DUE.is("fails at 30 of 20", k == 19 ? 2 : 1, x.turn(1));
        }
    }

    private static void questionPins() {
        HouseWorkers x = squares();
        x.question(2, 0, 3);
        x.writer(1, 0, 3, 1000);
        DUE.is("run 3", 3, x.run(3));
        DUE.is("the question is done", 2, x.told(0, END));
        DUE.is("the writer commits", 2, x.turn(1));
        x.question(2, 0, 3);
        x.writer(1, 0, 3, 5000);
        DUE.is("its version", 1, x.told(2, VERSION));
        DUE.is("writer's step", 1, x.turn(3));
        DUE.is("writer's commit", 2, x.turn(3));
        DUE.is("both kept", 2, x.count(KEPT));
        DUE.is("one pinned", 1, x.count(PINNED));
        DUE.is("reads", 1, x.turn(2));
        DUE.is("what it pinned", 1009, x.told(2, ANSWER));
        DUE.is("is done", 2, x.turn(2));
        DUE.is("answer", 1009 * 31 + 16, x.told(2, ANSWER));
        DUE.is("pins no more", 0, x.count(PINNED));
        DUE.is("one kept", 1, x.count(KEPT));
        DUE.is("told its version still", 1, x.told(2, VERSION));
        DUE.is("but that is gone", NO, x.cell(1, 3));
        DUE.is("the latest", 6009, x.cell(2, 3));
    }

    private static void beginningIsRefused() {
        HouseWorkers x = new HouseWorkers();
        int[][] bad = {{0, 0, 0}, {21, 0, 0}, {-1, 0, 0}, {1, -1, 0}, {1, 31, 0}, {1, 0, -1}, {1, 0, 16},
            {MIN, 0, 0}, {MAX, 0, 0}, {1, MIN, 0}, {1, MAX, 0}, {1, 0, MIN}, {1, 0, MAX}};
        for (int[] b : bad) {
            DUE.is("bad question", BAD, x.question(b[0], b[1], b[2]));
            DUE.is("bad writer", BAD, x.writer(b[0], b[1], b[2], 1));
            if (b[2] == 0) {
                DUE.is("bad reason", BAD, x.reason(b[0], b[1]));
            }
        }
        DUE.is("nobody began", 0, x.count(GO_ON));
        for (int i = 0; i < 28; i += 4) {
            DUE.is("question", i, x.question(20, 30, 15));
            DUE.is("writer", i + 1, x.writer(20, 30, 15, MIN));
            DUE.is("reason", i + 2, x.reason(20, 30));
            DUE.is("stream", i + 3, x.stream());
        }
        DUE.is("question 28", 28, x.question(1, 0, 0));
        DUE.is("writer 29", 29, x.writer(1, 0, 0, 0));
        DUE.is("full question", FULL, x.question(1, 0, 0));
        DUE.is("full writer", FULL, x.writer(1, 0, 0, 0));
        DUE.is("full reason", FULL, x.reason(1, 0));
        DUE.is("full stream", FULL, x.stream());
        DUE.is("BAD before FULL, question", BAD, x.question(0, 0, 0));
        DUE.is("BAD before FULL, writer", BAD, x.writer(1, 31, 0, 0));
        DUE.is("BAD before FULL, reason", BAD, x.reason(21, 0));
        DUE.is("close", 30, x.close());
        DUE.is("NO before FULL, question", NO, x.question(1, 0, 0));
        DUE.is("NO before FULL, writer", NO, x.writer(1, 0, 0, 0));
        DUE.is("NO before FULL, reason", NO, x.reason(1, 0));
        DUE.is("NO before FULL, stream", NO, x.stream());
        DUE.is("BAD before NO, question", BAD, x.question(1, 0, 16));
        DUE.is("BAD before NO, writer", BAD, x.writer(1, 0, -1, 0));
        DUE.is("BAD before NO, reason", BAD, x.reason(1, 31));
    }

    private static void writerCommits() {
        HouseWorkers x = squares();
        DUE.is("writer", 0, x.writer(20, 0, 14, MAX));
        for (int k = 0; k < 20; k++) {
            DUE.is("writes", 1, x.turn(0));
            DUE.is("only a draft", 1, x.count(VERSIONS));
        }
        DUE.is("no version yet", -1, x.told(0, VERSION));
        DUE.is("has not ended", 0, x.told(0, END));
        DUE.is("commits", 2, x.turn(0));
        DUE.is("steps without the commit", 20, x.told(0, STEPS));
        DUE.is("its version", 1, x.told(0, VERSION));
        DUE.is("its answer", 0, x.told(0, ANSWER));
        for (int i = 0; i < 16; i++) {
            int times = i == 14 || i == 15 || i == 0 || i == 1 ? 2 : 1;
            DUE.is("its cells", i * i + times * MAX, x.cell(1, i));
        }
        DUE.is("version 0 is gone", NO, x.cell(0, 0));
        DUE.is("nothing more", 0, x.turn(0));
    }

    private static void writersCommitByTheirNumbers() {
        HouseWorkers x = squares();
        x.writer(2, 0, 0, 1);
        x.writer(1, 0, 0, 10);
        x.question(1, 0, 0);
        x.writer(1, 0, 1, 100);
        DUE.is("the last one writes", 1, x.turn(3));
        DUE.is("it waits", 0, x.turn(3));
        DUE.is("the second writes", 1, x.turn(1));
        DUE.is("it waits too", 0, x.turn(1));
        DUE.is("the first writes", 1, x.turn(0));
        DUE.is("the first writes again", 1, x.turn(0));
        DUE.is("the second still waits", 0, x.turn(1));
        DUE.is("the first commits", 2, x.turn(0));
        DUE.is("the last one waits for the second", 0, x.turn(3));
        DUE.is("the second commits", 2, x.turn(1));
        DUE.is("a question is not waited for", 2, x.turn(3));
        DUE.is("versions", 4, x.count(VERSIONS));
        DUE.is("cell 0", 11, x.cell(3, 0));
        DUE.is("cell 1", 102, x.cell(3, 1));
        DUE.is("waited", 4, x.count(WAITED));
        DUE.is("number of the first", 1, x.told(0, VERSION));
        DUE.is("number of the second", 2, x.told(1, VERSION));
        DUE.is("number of the last", 3, x.told(3, VERSION));
    }

    private static void writerFails() {
        HouseWorkers x = squares();
        x.writer(3, 3, 0, 7);
        x.writer(3, 4, 0, 9);
        x.writer(1, 0, 5, 1);
        DUE.is("1 of 3", 1, x.turn(0));
        DUE.is("2 of 3", 1, x.turn(0));
        DUE.is("the last writes", 1, x.turn(2));
        DUE.is("fails at 3", 3, x.turn(0));
        DUE.is("steps before", 2, x.told(0, STEPS));
        DUE.is("how", 3, x.told(0, END));
        DUE.is("no version", -1, x.told(0, VERSION));
        DUE.is("no version at all", 1, x.count(VERSIONS));
        for (int k = 0; k < 3; k++) {
            DUE.is("fails at 4 of 3: writes", 1, x.turn(1));
        }
        DUE.is("fails at 4 of 3: commits", 2, x.turn(1));
        DUE.is("the draft of the failed is gone", 9, x.cell(1, 0));
        DUE.is("the last commits", 2, x.turn(2));
        DUE.is("cell 5", 26, x.cell(2, 5));
    }

    private static void reasoningSpreads() {
        HouseWorkers x = new HouseWorkers();
        int[] start = {5, -3, MIN, 8, 8, 2, MAX, -1, 0, 0, -7, 9, 4, 3, 1, 6};
        for (int i = 0; i < 16; i++) {
            x.put(i, start[i]);
        }
        DUE.is("reason", 0, x.reason(2, 0));
        DUE.is("round 1", 1, x.turn(0));
        DUE.is("round 2", 1, x.turn(0));
        DUE.is("no commit yet", 1, x.count(VERSIONS));
        DUE.is("commit", 2, x.turn(0));
        for (int i = 0; i < 16; i++) {
            int want = Math.max(start[i], Math.max(start[(i + 15) % 16], start[(i + 14) % 16]));
            DUE.is("spread cell " + i, want, x.cell(1, i));
        }
        DUE.is("rounds", 2, x.told(0, STEPS));
        DUE.is("version", 1, x.told(0, VERSION));
        DUE.is("answer", 0, x.told(0, ANSWER));
        HouseWorkers y = squares();
        y.reason(20, 0);
        DUE.is("all rounds", 21, y.run(1000));
        for (int i = 0; i < 16; i++) {
            DUE.is("spread to all", 225, y.cell(1, i));
        }
    }

    private static void reasoningWaits() {
        HouseWorkers x = squares();
        x.stream();
        x.question(2, 0, 0);
        x.writer(1, 0, 15, 1000);
        x.reason(1, 0);
        x.reason(1, 0);
        x.writer(1, 0, 1, 7);
        DUE.is("waits for the writer", 0, x.turn(3));
        DUE.is("still", 1, x.told(3, STILL));
        DUE.is("writer", 1, x.turn(2));
        DUE.is("waits for the commit", 0, x.turn(3));
        DUE.is("writer commits", 2, x.turn(2));
        DUE.is("no longer still", 0, x.told(3, STILL));
        DUE.is("the other still", 1, x.told(4, STILL));
        DUE.is("round on the latest", 1, x.turn(3));
        DUE.is("the other waits", 0, x.turn(4));
        DUE.is("the writer behind writes", 1, x.turn(5));
        DUE.is("the writer behind waits", 0, x.turn(5));
        DUE.is("commits", 2, x.turn(3));
        DUE.is("cell 0", 1225, x.cell(2, 0));
        DUE.is("the other's round", 1, x.turn(4));
        DUE.is("the other commits", 2, x.turn(4));
        DUE.is("cell 1", 1225, x.cell(3, 1));
        DUE.is("the writer behind commits", 2, x.turn(5));
        DUE.is("its cell 1", 1232, x.cell(4, 1));
        DUE.is("waited", 4, x.count(WAITED));
    }

    private static void reasoningFails() {
        HouseWorkers x = squares();
        x.writer(1, 0, 0, 1);
        x.reason(2, 1);
        x.reason(2, 2);
        x.reason(2, 3);
        DUE.is("does not come to its first round", 0, x.turn(1));
        DUE.is("would wait", 1, x.told(1, STILL));
        x.turn(0);
        x.turn(0);
        DUE.is("would fail", 0, x.told(1, STILL));
        DUE.is("fails at 1", 3, x.turn(1));
        DUE.is("no rounds", 0, x.told(1, STEPS));
        DUE.is("pinned nothing", 0, x.count(PINNED));
        DUE.is("round", 1, x.turn(2));
        DUE.is("fails at 2", 3, x.turn(2));
        DUE.is("one round", 1, x.told(2, STEPS));
        DUE.is("its cells are gone", 2, x.count(VERSIONS));
        DUE.is("fails at 3 of 2: all", 3, x.run(1000));
        DUE.is("fails at 3 of 2: done", 2, x.told(3, END));
        DUE.is("its version", 2, x.told(3, VERSION));
    }

    private static void reasoningPins() {
        HouseWorkers x = squares();
        x.reason(3, 0);
        DUE.is("pins nothing before", 0, x.count(PINNED));
        x.turn(0);
        DUE.is("pins with the first round", 1, x.count(PINNED));
        DUE.is("tells no version", -1, x.told(0, VERSION));
        x.question(5, 0, 0);
        DUE.is("the same version twice", 1, x.count(PINNED));
        x.run(3);
        x.cancel(0);
        x.cancel(1);
        DUE.is("pinned until it has ended", 1, x.count(PINNED));
        x.turn(0);
        DUE.is("the question pins still", 1, x.count(PINNED));
        x.turn(1);
        DUE.is("what has ended pins nothing", 0, x.count(PINNED));
        HouseWorkers y = squares();
        y.reason(1, 0);
        y.run(1000);
        DUE.is("done pins nothing", 0, y.count(PINNED));
        DUE.is("done keeps one", 1, y.count(KEPT));
    }

    private static void streamGetsEachVersionOnce() {
        HouseWorkers x = squares();
        x.stream();
        DUE.is("waits", 0, x.turn(0));
        DUE.is("version at first", 0, x.told(0, VERSION));
        x.writer(1, 0, 0, MAX);
        x.turn(1);
        x.turn(1);
        x.stream();
        DUE.is("began at", 1, x.told(2, VERSION));
        x.reason(1, 0);
        x.turn(3);
        x.turn(3);
        int one = 1240 + MAX;
        int two = 0;
        for (int i = 0; i < 16; i++) {
            two += x.cell(2, i);
        }
        DUE.is("gets 1", 1, x.turn(0));
        DUE.is("answer 1", one, x.told(0, ANSWER));
        DUE.is("got 1", 1, x.told(0, VERSION));
        DUE.is("gets 2", 1, x.turn(0));
        DUE.is("answer 2", 31 * one + two, x.told(0, ANSWER));
        DUE.is("got 2", 2, x.told(0, VERSION));
        DUE.is("waits again", 0, x.turn(0));
        DUE.is("steps", 2, x.told(0, STEPS));
        DUE.is("the later one gets 2", 1, x.turn(2));
        DUE.is("its answer", two, x.told(2, ANSWER));
        DUE.is("it waits", 0, x.turn(2));
        DUE.is("never done", 0, x.told(2, END));
    }

    private static void streamKeepsVersions() {
        HouseWorkers x = squares();
        x.stream();
        for (int i = 1; i <= 3; i++) {
            x.writer(1, 0, i, 1000);
            x.turn(i);
            x.turn(i);
        }
        DUE.is("versions", 4, x.count(VERSIONS));
        DUE.is("kept: all but what it began at", 3, x.count(KEPT));
        DUE.is("version 0 is gone", NO, x.cell(0, 0));
        DUE.is("version 1 is kept", 1001, x.cell(1, 1));
        DUE.is("none is pinned", 0, x.count(PINNED));
        x.turn(0);
        DUE.is("what it got is gone", NO, x.cell(1, 1));
        DUE.is("version 2 is kept", 1004, x.cell(2, 2));
        DUE.is("kept", 2, x.count(KEPT));
        x.cancel(0);
        DUE.is("kept until it has ended", 2, x.count(KEPT));
        x.turn(0);
        DUE.is("kept when it has ended", 1, x.count(KEPT));
        DUE.is("version 2 is gone", NO, x.cell(2, 2));
        DUE.is("version 3 is the latest", 1009, x.cell(3, 3));
        DUE.is("got last", 1, x.told(0, VERSION));
        x.stream();
        DUE.is("a new stream brings nothing back", 1, x.count(KEPT));
    }

    private static void turnAnswers() {
        HouseWorkers x = squares();
        x.question(2, 0, 0);
        x.question(2, 1, 0);
        x.question(2, 2, 0);
        DUE.is("a step", 1, x.turn(0));
        DUE.is("done", 2, x.turn(0));
        DUE.is("ended before", 0, x.turn(0));
        DUE.is("failed", 3, x.turn(1));
        DUE.is("failed before", 0, x.turn(1));
        DUE.is("no step", 0, x.told(1, STEPS));
        DUE.is("first of two", 1, x.turn(2));
        DUE.is("failed in the place of the last", 3, x.turn(2));
        DUE.is("no such worker", BAD, x.turn(3));
        DUE.is("no such worker below", BAD, x.turn(-1));
        DUE.is("nobody waited", 0, x.count(WAITED));
        DUE.is("did", 5, x.count(DID));
    }

    private static void runGoesByRows() {
        HouseWorkers x = squares();
        x.writer(1, 0, 0, 1);
        x.question(3, 0, 0);
        x.writer(1, 0, 0, 1);
        x.stream();
        DUE.is("all", 9, x.run(1000));
        int[][] ends = {{0, 2, 4}, {2, 2, 6}, {1, 2, 8}};
        for (int i = 0; i < ends.length; i++) {
            for (int what = 0; what < 3; what++) {
                DUE.is("run: end " + i + " " + what, ends[i][what], x.ended(i, what));
            }
        }
        DUE.is("waited: once in row 1, once in the last", 2, x.count(WAITED));
        DUE.is("nothing more", 0, x.run(1));
        DUE.is("a row of waiting counts", 3, x.count(WAITED));
        DUE.is("run 0 gives no turns", 0, x.run(0));
        DUE.is("so none waits", 3, x.count(WAITED));
        DUE.is("run -1", BAD, x.run(-1));
        DUE.is("run 1001", BAD, x.run(1001));
        DUE.is("run MIN", BAD, x.run(MIN));
        DUE.is("run MAX", BAD, x.run(MAX));
        DUE.is("BAD gives no turns", 3, x.count(WAITED));
    }

    private static void runStopsInTheMidst() {
        HouseWorkers x = squares();
        x.question(3, 0, 0);
        x.question(3, 0, 0);
        x.stream();
        DUE.is("run 3", 3, x.run(3));
        DUE.is("the first twice", 2, x.told(0, STEPS));
        DUE.is("the second once", 1, x.told(1, STEPS));
        DUE.is("the stream waited once", 1, x.count(WAITED));
        DUE.is("a new run begins with the first", 1, x.run(1));
        DUE.is("which is done", 2, x.told(0, END));
        DUE.is("up to the second's last", 2, x.run(2));
        DUE.is("nobody behind that got a turn", 2, x.count(WAITED));
        HouseWorkers y = squares();
        for (int i = 0; i < 30; i++) {
            y.reason(20, 0);
        }
        DUE.is("all thirty", 630, y.run(1000));
        DUE.is("thirty commits", 31, y.count(VERSIONS));
        // Each takes 20 rows for its rounds, in which all behind it wait; its commit sets the next
        // one free within the same row, whose first round that is.
        DUE.is("waited", 20 * (29 * 30 / 2), y.count(WAITED));
    }

    private static void cancelTakesTheNextTurn() {
        HouseWorkers x = squares();
        x.question(2, 1, 0);
        DUE.is("cancel", 1, x.cancel(0));
        DUE.is("told already", 0, x.cancel(0));
        DUE.is("not ended yet", 0, x.told(0, END));
        DUE.is("goes on", 1, x.count(GO_ON));
        DUE.is("cancelled, not failed", 4, x.turn(0));
        DUE.is("did", 1, x.count(DID));
        DUE.is("ended", 0, x.cancel(0));
        DUE.is("no more", 0, x.turn(0));
        DUE.is("how", 4, x.told(0, END));
        x.question(1, 0, 0);
        x.turn(1);
        DUE.is("done is not cancelled", 0, x.cancel(1));
        x.question(1, 1, 0);
        x.turn(2);
        DUE.is("failed is not cancelled", 0, x.cancel(2));
        x.question(1, 0, 0);
        x.cancel(3);
        DUE.is("cancelled, not done", 4, x.turn(3));
        DUE.is("no answer", 0, x.told(3, ANSWER));
        DUE.is("no such worker", BAD, x.cancel(4));
        DUE.is("no such worker below", BAD, x.cancel(-1));
        DUE.is("did all", 4, x.count(DID));
    }

    private static void cancelFreesWhoWaits() {
        HouseWorkers x = squares();
        x.writer(1, 0, 0, 1);
        x.writer(1, 0, 0, 10);
        x.reason(1, 0);
        x.stream();
        x.turn(1);
        for (int i = 1; i < 4; i++) {
            DUE.is("waits", 1, x.told(i, STILL));
            x.cancel(i);
            DUE.is("its turn would do something", 0, x.told(i, STILL));
        }
        x.cancel(0);
        DUE.is("told, but not ended", 0, x.told(0, END));
        DUE.is("all four", 4, x.run(1000));
        for (int i = 0; i < 4; i++) {
            DUE.is("cancelled", 4, x.told(i, END));
            DUE.is("still", 1, x.told(i, STILL));
        }
        DUE.is("drafts are gone", 1, x.count(VERSIONS));
        DUE.is("nobody waited", 0, x.count(WAITED));
        HouseWorkers y = squares();
        y.writer(1, 0, 0, 1);
        y.writer(1, 0, 0, 10);
        y.turn(1);
        y.cancel(0);
        DUE.is("told is not ended", 0, y.turn(1));
        y.turn(0);
        DUE.is("ended is", 2, y.turn(1));
        DUE.is("without the draft", 10, y.cell(1, 0));
    }

    private static void closeCancelsAll() {
        HouseWorkers x = squares();
        x.question(5, 0, 0);
        x.writer(5, 0, 0, 1);
        x.question(1, 0, 0);
        x.reason(5, 0);
        x.stream();
        x.cancel(3);
        DUE.is("some turns", 3, x.run(3));
        DUE.is("close", 4, x.close());
        int[] order = {2, 0, 1, 3, 4};
        for (int i = 0; i < order.length; i++) {
            DUE.is("who", order[i], x.ended(i, 0));
            DUE.is("how", i == 0 ? 2 : 4, x.ended(i, 1));
            DUE.is("closing counts none", 3, x.ended(i, 2));
        }
        DUE.is("no more", NO, x.ended(5, 0));
        DUE.is("did", 3, x.count(DID));
        DUE.is("none goes on", 0, x.count(GO_ON));
        DUE.is("none is pinned", 0, x.count(PINNED));
        DUE.is("one is kept", 1, x.count(KEPT));
        DUE.is("close again", NO, x.close());
        DUE.is("turn", 0, x.turn(0));
        DUE.is("run", 0, x.run(10));
        DUE.is("cancel", 0, x.cancel(0));
        DUE.is("nobody waited", 0, x.count(WAITED));
        DUE.is("cell", 4, x.cell(0, 2));
    }

    private static void closeWithoutWorkers() {
        HouseWorkers x = squares();
        DUE.is("close", 0, x.close());
        DUE.is("close again", NO, x.close());
        DUE.is("stream", NO, x.stream());
        DUE.is("run", 0, x.run(5));
        DUE.is("a worker never began, so put is not refused", 1, x.put(2, 77));
        DUE.is("cell", 77, x.cell(0, 2));
    }

    private static void tells(HouseWorkers x, int work, int... want) {
        for (int what = 0; what < want.length; what++) {
            DUE.is("told(" + work + ", " + what + ")", want[what], x.told(work, what));
        }
    }

    private static void toldOfEachKind() {
        HouseWorkers x = squares();
        x.question(2, 0, 2);
        x.writer(2, 0, 2, 1);
        x.reason(2, 0);
        x.stream();
        tells(x, 0, 0, 0, 0, 0, 0, 0, BAD);
        tells(x, 1, 1, 0, 0, 0, -1, 0, BAD);
        tells(x, 2, 2, 0, 0, 0, -1, 1, BAD);
        tells(x, 3, 3, 0, 0, 0, 0, 1, BAD);
        DUE.is("telling is no turn", 0, x.count(WAITED) + x.count(DID));
        x.run(3);
        tells(x, 0, 0, 2, 2, 4 * 31 + 9, 0, 1, BAD);
        tells(x, 1, 1, 0, 1, 0, -1, 0, BAD);
        x.run(1000);
        tells(x, 1, 1, 2, 2, 0, 1, 1, BAD);
        tells(x, 2, 2, 2, 2, 0, 2, 1, BAD);
        DUE.is("stream", 2, x.told(3, STEPS));
        DUE.is("stream's version", 2, x.told(3, VERSION));
        DUE.is("kind", 3, x.told(3, KIND));
        DUE.is("what -1", BAD, x.told(0, -1));
        DUE.is("work 4", BAD, x.told(4, 0));
        DUE.is("work -1", BAD, x.told(-1, 0));
    }

    private static void endedInTheirOrder() {
        HouseWorkers x = squares();
        x.question(1, 0, 0);
        x.question(1, 1, 0);
        x.stream();
        DUE.is("none yet", NO, x.ended(0, 0));
        x.turn(2);
        x.turn(1);
        x.cancel(2);
        x.turn(2);
        x.turn(0);
        int[][] want = {{1, 3, 1}, {2, 4, 2}, {0, 2, 3}};
        for (int i = 0; i < want.length; i++) {
            for (int what = 0; what < 3; what++) {
                DUE.is("ended(" + i + ", " + what + ")", want[i][what], x.ended(i, what));
            }
        }
        DUE.is("not so many", NO, x.ended(3, 2));
        DUE.is("i -1", NO, x.ended(-1, 0));
        DUE.is("i MIN", NO, x.ended(MIN, 0));
        DUE.is("i MAX", NO, x.ended(MAX, 0));
        DUE.is("what 3", BAD, x.ended(0, 3));
        DUE.is("what -1", BAD, x.ended(0, -1));
        DUE.is("BAD before NO", BAD, x.ended(3, 3));
    }

    private static void cellsThatAreGone() {
        HouseWorkers x = squares();
        DUE.is("version 1 so far", BAD, x.cell(1, 0));
        DUE.is("version -1", BAD, x.cell(-1, 0));
        DUE.is("cell 16", BAD, x.cell(0, 16));
        DUE.is("cell -1", BAD, x.cell(0, -1));
        x.question(1, 0, 0);
        x.writer(1, 0, 4, 5);
        x.turn(1);
        x.turn(1);
        DUE.is("pinned", 16, x.cell(0, 4));
        DUE.is("latest", 21, x.cell(1, 4));
        x.turn(0);
        DUE.is("gone", NO, x.cell(0, 4));
        DUE.is("gone, and no such cell", BAD, x.cell(0, 16));
        DUE.is("latest still", 21, x.cell(1, 4));
        DUE.is("version 2", BAD, x.cell(2, 4));
        DUE.is("version MAX", BAD, x.cell(MAX, 4));
        DUE.is("version MIN", BAD, x.cell(MIN, 4));
        x.question(1, 0, 0);
        DUE.is("gone for good", NO, x.cell(0, 4));
    }

    private static void counts(HouseWorkers x, int... want) {
        for (int what = 0; what < want.length; what++) {
            DUE.is("count(" + what + ")", want[what], x.count(what));
        }
    }

    private static void countsOfAll() {
        HouseWorkers x = squares();
        counts(x, 1, 1, 0, 0, 0, 0, BAD);
        x.question(3, 0, 0);
        x.writer(1, 0, 0, 1);
        counts(x, 1, 1, 1, 0, 0, 2, BAD);
        x.turn(1);
        x.turn(1);
        counts(x, 2, 2, 1, 2, 0, 1, BAD);
        x.question(3, 0, 0);
        x.stream();
        x.stream();
        counts(x, 2, 2, 2, 2, 0, 4, BAD);
        x.turn(3);
        x.turn(1);
        counts(x, 2, 2, 2, 2, 1, 4, BAD);
        x.writer(1, 0, 0, 1);
        x.writer(1, 0, 0, 1);
        x.turn(5);
        x.turn(5);
        x.turn(6);
        x.turn(6);
        counts(x, 4, 4, 2, 6, 1, 4, BAD);
        x.turn(3);
        counts(x, 4, 4, 2, 7, 1, 4, BAD);
        x.turn(4);
        counts(x, 4, 3, 2, 8, 1, 4, BAD);
        x.cancel(2);
        x.turn(2);
        counts(x, 4, 2, 1, 9, 1, 3, BAD);
        DUE.is("close", 3, x.close());
        counts(x, 4, 1, 0, 9, 1, 0, BAD);
        DUE.is("count -1", BAD, x.count(-1));
    }

    private static void wrongInputs() {
        HouseWorkers x = squares();
        x.writer(1, 0, 0, 1);
        int[] wrong = {MIN, -2, -1, 30, 31, 1001, MAX};
        for (int a : wrong) {
            DUE.is("put", BAD, x.put(a, a));
            DUE.is("turn", BAD, x.turn(a));
            DUE.is("cancel", BAD, x.cancel(a));
            DUE.is("told work", BAD, x.told(a, 0));
            DUE.is("told what", BAD, x.told(0, a));
            DUE.is("ended what", BAD, x.ended(0, a));
            DUE.is("ended i", NO, x.ended(a, 0));
            DUE.is("cell version", BAD, x.cell(a, 0));
            DUE.is("cell cell", BAD, x.cell(0, a));
            DUE.is("count", BAD, x.count(a));
            DUE.is("question", BAD, x.question(a, a, a));
            DUE.is("writer", BAD, x.writer(a, a, a, a));
            DUE.is("reason", BAD, x.reason(a, a));
        }
        counts(x, 1, 1, 0, 0, 0, 1, BAD);
    }
}
