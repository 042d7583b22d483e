/** Each sentence of the document's promises 1 to 14 that names an edge, with a test of its own. */
public final class PromiseEdgesTest extends Houses {
    private static final Due DUE = new Due("PromiseEdgesTest");

    /** A call that begins a worker: what it answers. */
    private interface Begin {
        int in(HouseWorkers x);
    }

    private static final Begin[] BEGINS = {
        x -> x.question(1, 0, 0), x -> x.writer(1, 0, 0, 1), x -> x.reason(1, 0), HouseWorkers::stream};

    public static void main(String[] args) {
        newAndPut();
        beginning();
        turns();
        runs();
        cancelAndClose();
        toldOf();
        endsCellsAndCounts();
        DUE.close();
    }

    private static void newAndPut() {
        DUE.sentence("1: No workers", PromiseEdgesTest::newWithoutWorkers);
        DUE.sentence("1: version 0 has 0s", PromiseEdgesTest::newHasZeros);
        DUE.sentence("1: the house is open", PromiseEdgesTest::newIsOpen);
        DUE.sentence("2: A cell of version 0 becomes v: 1", PromiseEdgesTest::putAtTheEdges);
        DUE.sentence("2: BAD: no such cell", PromiseEdgesTest::putNoSuchCell);
        DUE.sentence("2: NO: a worker began already", PromiseEdgesTest::putTooLate);
        DUE.sentence("2: NO only when one began", PromiseEdgesTest::putWhenNoneBegan);
    }

    private static void beginning() {
        DUE.sentence("3: steps 1 .. 20, failsAt 0 .. 30, first 0 .. 15", PromiseEdgesTest::questionAtTheEdges);
        DUE.sentence("3: BAD when steps are not 1 .. 20", PromiseEdgesTest::questionOfWrongSteps);
        DUE.sentence("3: BAD when failsAt not 0 .. 30", PromiseEdgesTest::questionOfWrongFailsAt);
        DUE.sentence("3: BAD when first is not 0 .. 15", PromiseEdgesTest::questionOfWrongFirst);
        DUE.sentence("4: a writer's least and most", PromiseEdgesTest::writerAtTheEdges);
        DUE.sentence("4: BAD as for question()", PromiseEdgesTest::wrongWriter);
        DUE.sentence("4: with its BY, any number", PromiseEdgesTest::writerOfAnyBy);
        DUE.sentence("5: a reasoning's least and most", PromiseEdgesTest::reasonAtTheEdges);
        DUE.sentence("5: BAD when rounds are not 1 .. 20", PromiseEdgesTest::reasonOfWrongRounds);
        DUE.sentence("5: BAD when failsAt not 0 .. 30", PromiseEdgesTest::reasonOfWrongFailsAt);
        DUE.sentence("3 to 6: NO: the house is closed", PromiseEdgesTest::beginInAClosedHouse);
        DUE.sentence("3 to 6: FULL", PromiseEdgesTest::beginInAFullHouse);
        DUE.sentence("3 to 6: BAD, NO, FULL, in this order", PromiseEdgesTest::orderOfRefusals);
        DUE.sentence("3 to 6: a refused call changes nothing", PromiseEdgesTest::refusedBeginsNothing);
    }

    private static void turns() {
        DUE.sentence("7: 0 it waits", PromiseEdgesTest::turnThatWaits);
        DUE.sentence("7: 0 it has ended before", PromiseEdgesTest::turnOfTheEnded);
        DUE.sentence("7: 1 it did a step and goes on", PromiseEdgesTest::turnThatGoesOn);
        DUE.sentence("7: 2 it is DONE now", PromiseEdgesTest::turnThatIsDone);
        DUE.sentence("7: 3 FAILED", PromiseEdgesTest::turnThatFails);
        DUE.sentence("7: 4 CANCELLED", PromiseEdgesTest::turnThatCancels);
        DUE.sentence("7: BAD", PromiseEdgesTest::turnOfNobody);
    }

    private static void runs() {
        DUE.sentence("8: All get turns, by their numbers, row after row", PromiseEdgesTest::runByRows);
        DUE.sentence("8: until in a whole row no turn did anything", PromiseEdgesTest::runUntilAllStand);
        DUE.sentence("8: or so many did something", PromiseEdgesTest::runSoMany);
        DUE.sentence("8: so many, and no turn behind that", PromiseEdgesTest::runStopsAtOnce);
        DUE.sentence("8: 0", PromiseEdgesTest::runNone);
        DUE.sentence("8: 1000", PromiseEdgesTest::runMost);
        DUE.sentence("8: BAD", PromiseEdgesTest::runWrong);
        DUE.sentence("8: nobody is there, or all have ended", PromiseEdgesTest::runWithoutWorkers);
    }

    private static void cancelAndClose() {
        DUE.sentence("9: A worker is told to be cancelled: 1", PromiseEdgesTest::cancelOnce);
        DUE.sentence("9: 0 when it has ended", PromiseEdgesTest::cancelTheEnded);
        DUE.sentence("9: 0 when it was told so already", PromiseEdgesTest::cancelTwice);
        DUE.sentence("9: BAD", PromiseEdgesTest::cancelNobody);
        DUE.sentence("10: all that have not ended are CANCELLED at once", PromiseEdgesTest::closeCancels);
        DUE.sentence("10: by their numbers", PromiseEdgesTest::closeByNumbers);
        DUE.sentence("10: how many: none", PromiseEdgesTest::closeCancelsNobody);
        DUE.sentence("10: how many: thirty", PromiseEdgesTest::closeCancelsThirty);
        DUE.sentence("10: NO: it is closed", PromiseEdgesTest::closeTwice);
    }

    private static void toldOf() {
        DUE.sentence("11: 0 its kind", PromiseEdgesTest::toldKind);
        DUE.sentence("11: 1 how it ended (0 it did not)", PromiseEdgesTest::toldEnd);
        DUE.sentence("11: 2 how many steps it did", PromiseEdgesTest::toldSteps);
        DUE.sentence("11: 3 its answer (0 of writers and reasonings)", PromiseEdgesTest::toldAnswer);
        DUE.sentence("11: 4 a version: that of a question", PromiseEdgesTest::toldVersionOfAQuestion);
        DUE.sentence("11: 4 that which one committed (-1 without)", PromiseEdgesTest::toldVersionCommitted);
        DUE.sentence("11: 4 the one that a stream got last", PromiseEdgesTest::toldVersionOfAStream);
        DUE.sentence("11: 5 whether its turn would do nothing now: 1", PromiseEdgesTest::toldStill);
        DUE.sentence("11: 5 whether its turn would do nothing now: 0", PromiseEdgesTest::toldNotStill);
        DUE.sentence("11: BAD: no such worker", PromiseEdgesTest::toldOfNobody);
        DUE.sentence("11: BAD: no such what", PromiseEdgesTest::toldOfNothing);
    }

    private static void endsCellsAndCounts() {
        DUE.sentence("12: The i-th end, from 0", PromiseEdgesTest::endsFromZero);
        DUE.sentence("12: turns that did something, with that one", PromiseEdgesTest::endsCountTurns);
        DUE.sentence("12: closing counts none", PromiseEdgesTest::closingCountsNone);
        DUE.sentence("12: BAD: no such what", PromiseEdgesTest::endsOfNothing);
        DUE.sentence("12: NO: there were not so many", PromiseEdgesTest::notSoManyEnds);
        DUE.sentence("13: A cell of a version", PromiseEdgesTest::cellAtTheEdges);
        DUE.sentence("13: BAD: no such cell", PromiseEdgesTest::noSuchCell);
        DUE.sentence("13: BAD: no such version so far", PromiseEdgesTest::noSuchVersion);
        DUE.sentence("13: NO: it is gone", PromiseEdgesTest::goneVersion);
        DUE.sentence("14: 0 how many versions there were", PromiseEdgesTest::countVersions);
        DUE.sentence("14: 1 are kept", PromiseEdgesTest::countKept);
        DUE.sentence("14: 2 are pinned by workers", PromiseEdgesTest::countPinned);
        DUE.sentence("14: 3 turns that did something", PromiseEdgesTest::countDid);
        DUE.sentence("14: 4 turns of workers that had not ended that did nothing", PromiseEdgesTest::countWaited);
        DUE.sentence("14: 5 workers that go on", PromiseEdgesTest::countGoOn);
        DUE.sentence("14: BAD", PromiseEdgesTest::countNothing);
    }

    private static HouseWorkers closed() {
        HouseWorkers x = squares();
        x.close();
        return x;
    }

    private static HouseWorkers full() {
        HouseWorkers x = squares();
        for (int i = 0; i < 30; i++) {
            x.stream();
        }
        return x;
    }

    /** The numbers next to a range from 0, and the farthest ones. */
    private static int[] outside(int most) {
        return new int[] {-1, most + 1, MIN, MAX};
    }

    private static void newWithoutWorkers() {
        HouseWorkers x = new HouseWorkers();
        DUE.is("turn", BAD, x.turn(0));
        DUE.is("cancel", BAD, x.cancel(0));
        DUE.is("told", BAD, x.told(0, KIND));
        DUE.is("ended", NO, x.ended(0, WHO));
        DUE.is("go on", 0, x.count(GO_ON));
        DUE.is("pinned", 0, x.count(PINNED));
        DUE.is("did", 0, x.count(DID));
        DUE.is("waited", 0, x.count(WAITED));
    }

    private static void newHasZeros() {
        HouseWorkers x = new HouseWorkers();
        for (int cell = 0; cell < 16; cell++) {
            DUE.is("cell " + cell, 0, x.cell(0, cell));
        }
        DUE.is("it is the only version", 1, x.count(VERSIONS));
        DUE.is("it is kept", 1, x.count(KEPT));
        HouseWorkers other = squares();
        other.stream();
        DUE.is("what is put elsewhere is not here", 0, new HouseWorkers().cell(0, 15));
        DUE.is("who begins elsewhere is not here", 1, x.put(0, 1));
    }

    private static void newIsOpen() {
        for (Begin begin : BEGINS) {
            DUE.is("it lets one begin", 0, begin.in(new HouseWorkers()));
        }
        DUE.is("it can be closed", 0, new HouseWorkers().close());
    }

    private static void putAtTheEdges() {
        HouseWorkers x = new HouseWorkers();
        DUE.is("the first cell", 1, x.put(0, MIN));
        DUE.is("the last cell", 1, x.put(15, MAX));
        DUE.is("an answer's number", 1, x.put(7, BAD));
        DUE.is("cell 0", MIN, x.cell(0, 0));
        DUE.is("cell 15", MAX, x.cell(0, 15));
        DUE.is("cell 7", -1, x.cell(0, 7));
        for (int cell = 1; cell < 15; cell++) {
            DUE.is("no other", cell == 7 ? -1 : 0, x.cell(0, cell));
        }
        DUE.is("back to 0", 1, x.put(15, 0));
        DUE.is("cell 15 again", 0, x.cell(0, 15));
    }

    private static void putNoSuchCell() {
        HouseWorkers x = new HouseWorkers();
        for (int cell : outside(15)) {
            DUE.is("cell " + cell, BAD, x.put(cell, 9));
        }
        for (int cell = 0; cell < 16; cell++) {
            DUE.is("nothing was put", 0, x.cell(0, cell));
        }
        x.stream();
        DUE.is("BAD before NO", BAD, x.put(16, 9));
    }

    private static void putTooLate() {
        for (Begin begin : BEGINS) {
            HouseWorkers x = squares();
            begin.in(x);
            DUE.is("one began", NO, x.put(2, 9));
            cancelNow(x, 0);
            DUE.is("and has ended", NO, x.put(2, 9));
            x.close();
            DUE.is("and the house is closed", NO, x.put(2, 9));
            DUE.is("nothing was put", 4, x.cell(0, 2));
        }
        HouseWorkers y = squares();
        write(y, 0, 1);
        DUE.is("nor into a later version", NO, y.put(2, 9));
        DUE.is("nothing was put there", 4, y.cell(1, 2));
    }

    private static void putWhenNoneBegan() {
        HouseWorkers x = squares();
        x.question(0, 0, 0);
        x.writer(1, 31, 0, 0);
        x.reason(21, 0);
        x.turn(0);
        x.run(10);
        DUE.is("refused ones are no workers", 1, x.put(2, 9));
        x.close();
        DUE.is("closed, but none began", 1, x.put(2, 10));
        x.stream();
        DUE.is("refused by the closed house", 1, x.put(2, 11));
        DUE.is("the cell", 11, x.cell(0, 2));
    }

    private static void questionAtTheEdges() {
        HouseWorkers x = squares();
        DUE.is("the least", 0, x.question(1, 0, 0));
        DUE.is("the most", 1, x.question(20, 30, 15));
        DUE.is("the most steps", 2, x.question(20, 0, 0));
        DUE.is("the greatest failsAt", 3, x.question(1, 30, 0));
        DUE.is("the greatest first", 4, x.question(1, 0, 15));
        DUE.is("all turns", 1 + 20 + 20 + 1 + 1, x.run(1000));
        DUE.is("the last one's answer", 225, x.told(4, ANSWER));
    }

    private static void questionOfWrongSteps() {
        HouseWorkers x = squares();
        for (int steps : new int[] {0, -1, 21, MIN, MAX}) {
            DUE.is("steps " + steps, BAD, x.question(steps, 0, 0));
        }
    }

    private static void questionOfWrongFailsAt() {
        HouseWorkers x = squares();
        for (int failsAt : outside(30)) {
            DUE.is("failsAt " + failsAt, BAD, x.question(20, failsAt, 0));
        }
    }

    private static void questionOfWrongFirst() {
        HouseWorkers x = squares();
        for (int first : outside(15)) {
            DUE.is("first " + first, BAD, x.question(1, 0, first));
        }
    }

    private static void writerAtTheEdges() {
        HouseWorkers x = new HouseWorkers();
        DUE.is("the least", 0, x.writer(1, 0, 0, 1));
        DUE.is("the most", 1, x.writer(20, 30, 15, 1));
        DUE.is("the most steps", 2, x.writer(20, 0, 0, 1));
        DUE.is("the greatest failsAt", 3, x.writer(1, 30, 0, 1));
        DUE.is("the greatest first", 4, x.writer(1, 0, 15, 1));
        DUE.is("all turns", 2 + 21 + 21 + 2 + 2, x.run(1000));
        DUE.is("cell 0", 1 + 2 + 2 + 1, x.cell(5, 0));
        DUE.is("cell 15", 2 + 1 + 1, x.cell(5, 15));
    }

    private static void wrongWriter() {
        HouseWorkers x = squares();
        for (int steps : new int[] {0, -1, 21, MIN, MAX}) {
            DUE.is("steps " + steps, BAD, x.writer(steps, 0, 0, 1));
        }
        for (int failsAt : outside(30)) {
            DUE.is("failsAt " + failsAt, BAD, x.writer(20, failsAt, 0, 1));
        }
        for (int first : outside(15)) {
            DUE.is("first " + first, BAD, x.writer(1, 0, first, 1));
        }
    }

    private static void writerOfAnyBy() {
        HouseWorkers x = new HouseWorkers();
        int[] any = {0, -1, MIN, MAX};
        int sum = 0;
        for (int i = 0; i < any.length; i++) {
            DUE.is("by " + any[i], i, x.writer(1, 0, 6, any[i]));
            x.run(1000);
            sum += any[i];
            DUE.is("added", sum, x.cell(i + 1, 6));
        }
        DUE.is("a writer of 0 commits too", 5, x.count(VERSIONS));
    }

    private static void reasonAtTheEdges() {
        HouseWorkers x = squares();
        DUE.is("the least", 0, x.reason(1, 0));
        DUE.is("the most", 1, x.reason(20, 30));
        DUE.is("the most rounds", 2, x.reason(20, 0));
        DUE.is("the greatest failsAt", 3, x.reason(1, 30));
        DUE.is("all turns", 2 + 21 + 21 + 2, x.run(1000));
        DUE.is("all commit", 5, x.count(VERSIONS));
    }

    private static void reasonOfWrongRounds() {
        HouseWorkers x = squares();
        for (int rounds : new int[] {0, -1, 21, MIN, MAX}) {
            DUE.is("rounds " + rounds, BAD, x.reason(rounds, 0));
        }
    }

    private static void reasonOfWrongFailsAt() {
        HouseWorkers x = squares();
        for (int failsAt : outside(30)) {
            DUE.is("failsAt " + failsAt, BAD, x.reason(20, failsAt));
        }
    }

    private static void beginInAClosedHouse() {
        HouseWorkers x = closed();
        HouseWorkers y = squares();
        y.stream();
        y.close();
        for (int i = 0; i < BEGINS.length; i++) {
            DUE.is("kind " + i + ", none began", NO, BEGINS[i].in(x));
            DUE.is("kind " + i + ", one began", NO, BEGINS[i].in(y));
        }
        DUE.is("none began", 0, x.count(GO_ON));
    }

    private static void beginInAFullHouse() {
        for (int i = 0; i < BEGINS.length; i++) {
            HouseWorkers x = squares();
            for (int number = 0; number < 29; number++) {
                x.stream();
            }
            DUE.is("kind " + i + ", the thirtieth", 29, BEGINS[i].in(x));
            for (int kind = 0; kind < BEGINS.length; kind++) {
                DUE.is("kind " + kind + ", one more", FULL, BEGINS[kind].in(x));
            }
            DUE.is("thirty go on", 30, x.count(GO_ON));
            cancelNow(x, 0);
            DUE.is("an end makes no room", FULL, BEGINS[i].in(x));
        }
    }

    private static void orderOfRefusals() {
        HouseWorkers x = full();
        DUE.is("question: BAD before FULL", BAD, x.question(0, 0, 0));
        DUE.is("writer: BAD before FULL", BAD, x.writer(1, 31, 0, 0));
        DUE.is("reason: BAD before FULL", BAD, x.reason(21, 0));
        x.close();
        DUE.is("question: BAD before NO", BAD, x.question(1, 0, 16));
        DUE.is("writer: BAD before NO", BAD, x.writer(1, 0, 16, 0));
        DUE.is("reason: BAD before NO", BAD, x.reason(1, -1));
        for (int i = 0; i < BEGINS.length; i++) {
            DUE.is("kind " + i + ": NO before FULL", NO, BEGINS[i].in(x));
        }
    }

    private static void refusedBeginsNothing() {
        HouseWorkers x = squares();
        x.question(0, 0, 0);
        x.writer(0, 0, 0, 0);
        x.reason(0, 0);
        DUE.is("BAD: nobody is there", BAD, x.told(0, KIND));
        DUE.is("BAD: nothing is pinned", 0, x.count(PINNED));
        HouseWorkers y = full();
        y.question(1, 0, 0);
        DUE.is("FULL: nobody is there", BAD, y.told(30, KIND));
        DUE.is("FULL: nothing is pinned", 0, y.count(PINNED));
        HouseWorkers z = closed();
        z.question(1, 0, 0);
        DUE.is("NO: nobody is there", BAD, z.told(0, KIND));
        DUE.is("NO: nothing is pinned", 0, z.count(PINNED));
    }

    private static void turnThatWaits() {
        HouseWorkers x = squares();
        x.writer(1, 0, 0, 1);
        x.writer(1, 0, 0, 1);
        x.reason(1, 0);
        x.stream();
        x.turn(1);
        for (int work = 1; work < 4; work++) {
            DUE.is("worker " + work, 0, x.turn(work));
            DUE.is("and again", 0, x.turn(work));
        }
    }

    private static void turnOfTheEnded() {
        HouseWorkers x = squares();
        x.question(1, 0, 0);
        x.question(1, 1, 0);
        x.stream();
        x.stream();
        x.turn(0);
        x.turn(1);
        cancelNow(x, 2);
        x.close();
        for (int work = 0; work < 4; work++) {
            DUE.is("worker " + work, 0, x.turn(work));
        }
        DUE.is("no turn was added", 3, x.count(DID));
        DUE.is("nor one that waits", 0, x.count(WAITED));
    }

    private static void turnThatGoesOn() {
        HouseWorkers x = squares();
        x.question(2, 0, 0);
        x.writer(1, 0, 0, 1);
        x.reason(1, 0);
        x.stream();
        DUE.is("question", 1, x.turn(0));
        DUE.is("writer, with its last step too", 1, x.turn(1));
        x.turn(1);
        DUE.is("reasoning, with its last round too", 1, x.turn(2));
        DUE.is("stream, with the latest version too", 1, x.turn(3));
    }

    private static void turnThatIsDone() {
        HouseWorkers x = squares();
        x.question(1, 0, 0);
        x.writer(1, 0, 0, 1);
        x.reason(1, 0);
        DUE.is("question", 2, x.turn(0));
        x.turn(1);
        DUE.is("writer", 2, x.turn(1));
        x.turn(2);
        DUE.is("reasoning", 2, x.turn(2));
    }

    private static void turnThatFails() {
        HouseWorkers x = squares();
        x.question(1, 1, 0);
        x.writer(1, 1, 0, 1);
        x.reason(1, 1);
        for (int work = 0; work < 3; work++) {
            DUE.is("worker " + work, 3, x.turn(work));
        }
    }

    private static void turnThatCancels() {
        HouseWorkers x = squares();
        oneOfEachKind(x);
        for (int work = 3; work >= 0; work--) {
            x.cancel(work);
            DUE.is("worker " + work, 4, x.turn(work));
        }
    }

    private static void turnOfNobody() {
        HouseWorkers x = full();
        for (int work : outside(29)) {
            DUE.is("worker " + work, BAD, x.turn(work));
        }
        DUE.is("the last one is somebody", WAITS, x.turn(29));
        DUE.is("only that waited", 1, x.count(WAITED));
        DUE.is("none did", 0, x.count(DID));
        DUE.is("in an empty house", BAD, new HouseWorkers().turn(0));
        HouseWorkers y = squares();
        oneOfEachKind(y);
        DUE.is("the next one that could begin", BAD, y.turn(4));
    }

    private static void runByRows() {
        HouseWorkers x = squares();
        x.question(2, 0, 0);
        x.question(1, 0, 0);
        x.question(2, 0, 0);
        DUE.is("two rows", 5, x.run(1000));
        int[] who = {1, 0, 2};
        int[] when = {2, 4, 5};
        for (int i = 0; i < who.length; i++) {
            DUE.is("end " + i, who[i], x.ended(i, WHO));
            DUE.is("its turn", when[i], x.ended(i, WHEN));
        }
        HouseWorkers y = squares();
        y.question(2, 0, 0);
        y.question(2, 0, 0);
        y.run(1);
        y.run(1);
        DUE.is("each run begins with number 0", DONE, y.told(0, END));
        DUE.is("not where the last one stopped", 0, y.told(1, STEPS));
    }

    private static void runUntilAllStand() {
        HouseWorkers x = squares();
        x.stream();
        x.reason(1, 0);
        x.writer(1, 0, 0, 1);
        DUE.is("also what becomes free by others", 6, x.run(1000));
        DUE.is("the stream got both", 2, x.told(0, STEPS));
        // Rows: the stream waits, a round, a step; then waits, the two commits; then it gets two
        // versions in two rows; then a row in which it waits.
        DUE.is("waited", 3, x.count(WAITED));
        DUE.is("nothing is left", 0, x.run(1000));
        DUE.is("one row to see that", 4, x.count(WAITED));
    }

    private static void runSoMany() {
        for (int most = 1; most <= 6; most++) {
            HouseWorkers x = squares();
            x.question(2, 0, 0);
            x.writer(2, 0, 0, 1);
            DUE.is("run(" + most + ")", Math.min(most, 5), x.run(most));
            DUE.is("the rest", 5 - Math.min(most, 5), x.run(1000));
        }
    }

    private static void runStopsAtOnce() {
        HouseWorkers x = squares();
        x.stream();
        x.question(2, 0, 0);
        x.stream();
        DUE.is("the question's first", 1, x.run(1));
        DUE.is("only the stream before it waited", 1, x.count(WAITED));
        DUE.is("the question's last", 1, x.run(1));
        DUE.is("again only that", 2, x.count(WAITED));
        DUE.is("now both", 0, x.run(1));
        DUE.is("waited", 4, x.count(WAITED));
    }

    private static void runNone() {
        HouseWorkers x = squares();
        x.stream();
        x.question(1, 0, 0);
        DUE.is("run(0)", 0, x.run(0));
        DUE.is("none did", 0, x.count(DID));
        DUE.is("none waited", 0, x.count(WAITED));
        DUE.is("no step", 0, x.told(1, STEPS));
    }

    private static void runMost() {
        HouseWorkers x = longHouse();
        DUE.is("all there are", 650, x.run(1000));
        HouseWorkers y = longHouse();
        DUE.is("all but one", 649, y.run(649));
        DUE.is("the last one", 1, y.run(1000));
        DUE.is("none is left", 0, y.run(1000));
        HouseWorkers z = longHouse();
        DUE.is("all, and no row more", 650, z.run(650));
        int before = z.count(WAITED);
        DUE.is("none is left", 0, z.run(1));
        DUE.is("five streams wait", before + 5, z.count(WAITED));
    }

    /** Nobody can make more turns do something without cancelling: 25 writers of 21, 5 streams of 25. */
    private static HouseWorkers longHouse() {
        HouseWorkers x = new HouseWorkers();
        for (int i = 0; i < 5; i++) {
            x.stream();
        }
        for (int i = 0; i < 25; i++) {
            x.writer(20, 0, 0, 1);
        }
        return x;
    }

    private static void runWrong() {
        HouseWorkers x = squares();
        x.stream();
        x.question(1, 0, 0);
        for (int most : outside(1000)) {
            DUE.is("run(" + most + ")", BAD, x.run(most));
        }
        DUE.is("none did", 0, x.count(DID));
        DUE.is("none waited", 0, x.count(WAITED));
        DUE.is("BAD in an empty house too", BAD, new HouseWorkers().run(1001));
        DUE.is("BAD in a closed house too", BAD, closed().run(-1));
    }

    private static void runWithoutWorkers() {
        DUE.is("nobody", 0, new HouseWorkers().run(1000));
        HouseWorkers x = squares();
        oneOfEachKind(x);
        x.close();
        DUE.is("all have ended", 0, x.run(1000));
        DUE.is("nobody waited", 0, x.count(WAITED));
    }

    private static void cancelOnce() {
        HouseWorkers x = squares();
        oneOfEachKind(x);
        for (int work = 0; work < 4; work++) {
            DUE.is("worker " + work, 1, x.cancel(work));
        }
        DUE.is("telling is no turn", 0, x.count(DID));
        DUE.is("all go on", 4, x.count(GO_ON));
        DUE.is("none has ended", NO, x.ended(0, WHO));
        DUE.is("the question pins still", 1, x.count(PINNED));
    }

    private static void cancelTheEnded() {
        HouseWorkers x = squares();
        x.question(1, 0, 0);
        x.question(1, 1, 0);
        x.stream();
        x.stream();
        x.turn(0);
        DUE.is("DONE", 0, x.cancel(0));
        x.turn(1);
        DUE.is("FAILED", 0, x.cancel(1));
        cancelNow(x, 2);
        DUE.is("CANCELLED", 0, x.cancel(2));
        x.close();
        DUE.is("CANCELLED by closing", 0, x.cancel(3));
        DUE.is("DONE stays", DONE, x.told(0, END));
        DUE.is("FAILED stays", FAILED, x.told(1, END));
        DUE.is("four ends", NO, x.ended(4, WHO));
    }

    private static void cancelTwice() {
        HouseWorkers x = squares();
        x.stream();
        DUE.is("once", 1, x.cancel(0));
        DUE.is("twice", 0, x.cancel(0));
        DUE.is("cancelled", CANCELLED, x.turn(0));
        DUE.is("one end", NO, x.ended(1, WHO));
        DUE.is("one turn", 1, x.count(DID));
    }

    private static void cancelNobody() {
        HouseWorkers x = full();
        for (int work : outside(29)) {
            DUE.is("worker " + work, BAD, x.cancel(work));
        }
        DUE.is("the last one is somebody", 1, x.cancel(29));
        DUE.is("in an empty house", BAD, new HouseWorkers().cancel(0));
        HouseWorkers y = squares();
        oneOfEachKind(y);
        DUE.is("the next one that could begin", BAD, y.cancel(4));
        DUE.is("it was not told when it begins", GOES_ON, y.turn(y.question(2, 0, 0)));
    }

    private static void closeCancels() {
        HouseWorkers x = squares();
        oneOfEachKind(x);
        x.question(1, 0, 0);
        x.question(1, 1, 0);
        x.turn(4);
        x.turn(5);
        x.turn(0);
        DUE.is("four had not ended", 4, x.close());
        for (int work = 0; work < 4; work++) {
            DUE.is("worker " + work, CANCELLED, x.told(work, END));
            DUE.is("would do nothing", 1, x.told(work, STILL));
        }
        DUE.is("DONE stays", DONE, x.told(4, END));
        DUE.is("FAILED stays", FAILED, x.told(5, END));
        DUE.is("none goes on", 0, x.count(GO_ON));
        DUE.is("nothing is pinned", 0, x.count(PINNED));
        DUE.is("the steps before stay", 1, x.told(0, STEPS));
        DUE.is("no draft is committed", 1, x.count(VERSIONS));
    }

    private static void closeByNumbers() {
        HouseWorkers x = squares();
        oneOfEachKind(x);
        x.cancel(3);
        x.cancel(1);
        cancelNow(x, 2);
        x.close();
        int[] who = {2, 0, 1, 3};
        for (int i = 0; i < who.length; i++) {
            DUE.is("end " + i, who[i], x.ended(i, WHO));
        }
        DUE.is("no more", NO, x.ended(4, WHO));
    }

    private static void closeCancelsNobody() {
        DUE.is("nobody began", 0, new HouseWorkers().close());
        HouseWorkers x = squares();
        x.question(1, 0, 0);
        x.turn(0);
        DUE.is("all have ended", 0, x.close());
        DUE.is("it is closed then", NO, x.stream());
    }

    private static void closeCancelsThirty() {
        HouseWorkers x = full();
        DUE.is("close", 30, x.close());
        for (int i = 0; i < 30; i++) {
            DUE.is("end " + i, i, x.ended(i, WHO));
        }
    }

    private static void closeTwice() {
        HouseWorkers x = squares();
        oneOfEachKind(x);
        x.close();
        String before = all(x, 4);
        DUE.is("again", NO, x.close());
        DUE.holds("nothing is changed", before.equals(all(x, 4)));
        DUE.is("and again", NO, x.close());
        DUE.is("also when nobody began", NO, closed().close());
    }

    private static void toldKind() {
        HouseWorkers x = squares();
        oneOfEachKind(x);
        for (int work = 0; work < 4; work++) {
            DUE.is("worker " + work, work, x.told(work, 0));
        }
        x.close();
        for (int work = 0; work < 4; work++) {
            DUE.is("ended, worker " + work, work, x.told(work, 0));
        }
    }

    private static void toldEnd() {
        HouseWorkers x = squares();
        x.question(2, 0, 0);
        x.question(1, 1, 0);
        x.stream();
        x.stream();
        x.turn(0);
        x.cancel(2);
        for (int work = 0; work < 4; work++) {
            DUE.is("it did not", 0, x.told(work, 1));
        }
        x.run(1000);
        x.close();
        DUE.is("DONE", 2, x.told(0, 1));
        DUE.is("FAILED", 3, x.told(1, 1));
        DUE.is("CANCELLED", 4, x.told(2, 1));
        DUE.is("CANCELLED by closing", 4, x.told(3, 1));
    }

    private static void toldSteps() {
        HouseWorkers x = squares();
        x.question(20, 0, 0);
        x.writer(20, 0, 0, 1);
        x.reason(20, 0);
        x.stream();
        x.question(2, 2, 0);
        for (int work = 0; work < 5; work++) {
            DUE.is("none yet", 0, x.told(work, 2));
        }
        x.run(1000);
        DUE.is("question", 20, x.told(0, 2));
        DUE.is("writer, its commit is none", 20, x.told(1, 2));
        DUE.is("reasoning, its commit is none", 20, x.told(2, 2));
        DUE.is("stream", 2, x.told(3, 2));
        DUE.is("failing is none", 1, x.told(4, 2));
        cancelNow(x, 3);
        DUE.is("being cancelled is none", 2, x.told(3, 2));
    }

    private static void toldAnswer() {
        HouseWorkers x = squares();
        x.question(2, 2, 5);
        x.writer(1, 0, 0, 1);
        x.reason(1, 0);
        x.stream();
        x.turn(0);
        x.turn(1);
        DUE.is("of a writer that goes on", 0, x.told(1, 3));
        x.turn(1);
        x.turn(2);
        DUE.is("of a reasoning that goes on", 0, x.told(2, 3));
        x.turn(2);
        x.turn(3);
        DUE.is("of a writer", 0, x.told(1, 3));
        DUE.is("of a reasoning", 0, x.told(2, 3));
        x.turn(0);
        x.close();
        DUE.is("of a question that failed", 25, x.told(0, 3));
        DUE.is("of a stream that was cancelled", 1241, x.told(3, 3));
    }

    private static void toldVersionOfAQuestion() {
        HouseWorkers x = squares();
        x.question(1, 0, 0);
        write(x, 0, 1);
        x.question(1, 1, 0);
        DUE.is("the first", 0, x.told(0, 4));
        DUE.is("the second", 1, x.told(2, 4));
        write(x, 0, 1);
        x.run(1000);
        DUE.is("the first when it is gone", 0, x.told(0, 4));
        DUE.is("the second when it is gone", 1, x.told(2, 4));
    }

    private static void toldVersionCommitted() {
        HouseWorkers x = squares();
        x.writer(1, 0, 0, 1);
        x.writer(1, 1, 0, 1);
        x.reason(1, 1);
        x.reason(1, 0);
        x.writer(1, 0, 0, 1);
        x.reason(1, 0);
        for (int work = 0; work < 6; work++) {
            DUE.is("without", -1, x.told(work, 4));
        }
        x.turn(0);
        DUE.is("with its steps alone", -1, x.told(0, 4));
        x.turn(0);
        DUE.is("the writer's", 1, x.told(0, 4));
        x.turn(1);
        DUE.is("a failed writer's", -1, x.told(1, 4));
        x.turn(2);
        DUE.is("a failed reasoning's", -1, x.told(2, 4));
        x.turn(3);
        DUE.is("with its rounds alone", -1, x.told(3, 4));
        x.turn(3);
        DUE.is("the reasoning's", 2, x.told(3, 4));
        cancelNow(x, 4);
        DUE.is("a cancelled writer's", -1, x.told(4, 4));
        x.close();
        DUE.is("a cancelled reasoning's", -1, x.told(5, 4));
        DUE.is("the first when it is gone", 1, x.told(0, 4));
    }

    private static void toldVersionOfAStream() {
        HouseWorkers x = squares();
        write(x, 0, 1);
        x.stream();
        DUE.is("the latest when it began", 1, x.told(1, 4));
        write(x, 0, 1);
        write(x, 0, 1);
        DUE.is("it got none yet", 1, x.told(1, 4));
        x.turn(1);
        DUE.is("it got one", 2, x.told(1, 4));
        cancelNow(x, 1);
        DUE.is("it has ended", 2, x.told(1, 4));
    }

    private static void toldStill() {
        HouseWorkers x = squares();
        x.writer(2, 0, 0, 1);
        x.writer(1, 0, 0, 1);
        x.reason(1, 1);
        x.stream();
        x.question(1, 0, 0);
        x.turn(1);
        x.turn(4);
        DUE.is("a writer that waits", 1, x.told(1, 5));
        DUE.is("a reasoning that waits", 1, x.told(2, 5));
        DUE.is("a stream that waits", 1, x.told(3, 5));
        DUE.is("one that has ended", 1, x.told(4, 5));
        DUE.is("to ask is no turn", 0, x.count(WAITED));
        x.cancel(3);
        x.close();
        for (int work = 0; work < 5; work++) {
            DUE.is("closed, worker " + work, 1, x.told(work, 5));
        }
    }

    private static void toldNotStill() {
        HouseWorkers x = squares();
        x.question(1, 1, 0);
        x.stream();
        x.writer(1, 0, 0, 1);
        x.reason(1, 0);
        DUE.is("one that would fail", 0, x.told(0, 5));
        DUE.is("a writer with a step", 0, x.told(2, 5));
        x.turn(2);
        DUE.is("a writer with its commit", 0, x.told(2, 5));
        x.cancel(1);
        x.cancel(3);
        DUE.is("a stream that would be cancelled", 0, x.told(1, 5));
        DUE.is("a reasoning that would be cancelled", 0, x.told(3, 5));
        DUE.is("to ask is no turn", 1, x.count(DID));
        HouseWorkers y = squares();
        y.stream();
        write(y, 0, 1);
        y.reason(1, 0);
        DUE.is("a stream that did not get one", 0, y.told(0, 5));
        DUE.is("a reasoning with a round", 0, y.told(2, 5));
        y.turn(2);
        DUE.is("a reasoning with its commit", 0, y.told(2, 5));
    }

    private static void toldOfNobody() {
        HouseWorkers x = full();
        for (int what = KIND; what <= STILL; what++) {
            for (int work : outside(29)) {
                DUE.is("told(" + work + ", " + what + ")", BAD, x.told(work, what));
            }
            DUE.is("in an empty house", BAD, new HouseWorkers().told(0, what));
        }
        DUE.is("the last one is somebody", 3, x.told(29, KIND));
    }

    private static void toldOfNothing() {
        HouseWorkers x = squares();
        oneOfEachKind(x);
        for (int work = 0; work < 4; work++) {
            for (int what : outside(STILL)) {
                DUE.is("told(" + work + ", " + what + ")", BAD, x.told(work, what));
            }
        }
        DUE.is("nor of nobody", BAD, x.told(4, 6));
    }

    private static void endsFromZero() {
        HouseWorkers x = squares();
        x.question(1, 0, 0);
        x.question(1, 1, 0);
        x.stream();
        cancelNow(x, 2);
        x.turn(1);
        x.turn(0);
        for (int i = 0; i < 3; i++) {
            DUE.is("who " + i, 2 - i, x.ended(i, 0));
            DUE.is("how " + i, 4 - i, x.ended(i, 1));
        }
    }

    private static void endsCountTurns() {
        HouseWorkers x = squares();
        x.question(1, 0, 0);
        x.stream();
        x.writer(1, 0, 0, 1);
        x.turn(0);
        DUE.is("the first turn of all", 1, x.ended(0, 2));
        x.turn(1);
        x.turn(0);
        x.turn(9);
        x.turn(2);
        x.turn(2);
        DUE.is("without those that did nothing", 3, x.ended(1, 2));
        DUE.is("the first one's stays", 1, x.ended(0, 2));
    }

    private static void closingCountsNone() {
        HouseWorkers x = squares();
        oneOfEachKind(x);
        x.close();
        for (int i = 0; i < 4; i++) {
            DUE.is("none had been", 0, x.ended(i, 2));
        }
        DUE.is("none are", 0, x.count(DID));
        HouseWorkers y = squares();
        oneOfEachKind(y);
        y.turn(0);
        y.turn(1);
        y.close();
        for (int i = 0; i < 4; i++) {
            DUE.is("two had been", 2, y.ended(i, 2));
        }
        DUE.is("two are", 2, y.count(DID));
    }

    private static void endsOfNothing() {
        HouseWorkers x = squares();
        x.question(1, 0, 0);
        x.turn(0);
        for (int what : outside(WHEN)) {
            DUE.is("of an end: " + what, BAD, x.ended(0, what));
            DUE.is("BAD before NO: " + what, BAD, x.ended(1, what));
            DUE.is("BAD before NO, below: " + what, BAD, x.ended(-1, what));
        }
    }

    private static void notSoManyEnds() {
        HouseWorkers x = full();
        for (int what = WHO; what <= WHEN; what++) {
            DUE.is("none yet", NO, x.ended(0, what));
        }
        cancelNow(x, 7);
        DUE.is("one", 7, x.ended(0, WHO));
        DUE.is("not two", NO, x.ended(1, WHO));
        x.close();
        DUE.is("thirty", 29, x.ended(29, WHO));
        for (int i : outside(29)) {
            for (int what = WHO; what <= WHEN; what++) {
                DUE.is("ended(" + i + ", " + what + ")", NO, x.ended(i, what));
            }
        }
    }

    private static void cellAtTheEdges() {
        HouseWorkers x = new HouseWorkers();
        x.put(0, MIN);
        x.put(15, -2);
        DUE.is("the first", MIN, x.cell(0, 0));
        DUE.is("the last, a number like NO", -2, x.cell(0, 15));
        x.stream();
        for (int i = 0; i < 29; i++) {
            write(x, 0, 1);
        }
        DUE.is("the greatest version there can be here", MIN + 29, x.cell(29, 0));
        DUE.is("the least that the stream did not get", MIN + 1, x.cell(1, 0));
        DUE.is("its last cell", -2, x.cell(1, 15));
    }

    private static void noSuchCell() {
        HouseWorkers x = squares();
        for (int cell : outside(15)) {
            DUE.is("cell " + cell, BAD, x.cell(0, cell));
        }
        write(x, 0, 1);
        for (int cell : outside(15)) {
            DUE.is("BAD before NO, cell " + cell, BAD, x.cell(0, cell));
        }
    }

    private static void noSuchVersion() {
        HouseWorkers x = squares();
        for (int version : outside(0)) {
            DUE.is("version " + version, BAD, x.cell(version, 0));
        }
        x.writer(1, 0, 0, 1);
        x.turn(0);
        DUE.is("a draft is none", BAD, x.cell(1, 0));
        x.turn(0);
        DUE.is("a commit is one", 1, x.cell(1, 0));
        for (int version : outside(1)) {
            DUE.is("version " + version, BAD, x.cell(version, 0));
        }
    }

    private static void goneVersion() {
        HouseWorkers x = squares();
        write(x, 0, 1);
        DUE.is("the first cell", NO, x.cell(0, 0));
        DUE.is("the last cell", NO, x.cell(0, 15));
        x.question(1, 0, 0);
        write(x, 0, 1);
        DUE.is("pinned, so not gone", 1, x.cell(1, 0));
        x.turn(1);
        DUE.is("gone", NO, x.cell(1, 0));
    }

    private static void countVersions() {
        HouseWorkers x = squares();
        DUE.is("at first", 1, x.count(0));
        for (int i = 0; i < 30; i++) {
            write(x, 0, 1);
            DUE.is("the gone ones too", i + 2, x.count(0));
        }
        x.close();
        DUE.is("closed", 31, x.count(0));
    }

    private static void countKept() {
        HouseWorkers x = squares();
        x.question(1, 0, 0);
        DUE.is("pinned and the latest is one", 1, x.count(1));
        x.stream();
        write(x, 0, 1);
        DUE.is("not yet got and the latest is one", 2, x.count(1));
        x.question(1, 0, 0);
        write(x, 0, 1);
        DUE.is("pinned and not yet got is one", 3, x.count(1));
        x.turn(1);
        DUE.is("got, but pinned", 3, x.count(1));
        x.turn(3);
        DUE.is("neither", 2, x.count(1));
        x.close();
        DUE.is("closed", 1, x.count(1));
    }

    private static void countPinned() {
        HouseWorkers x = squares();
        DUE.is("the latest is not pinned by itself", 0, x.count(2));
        x.question(1, 0, 0);
        x.question(1, 0, 0);
        DUE.is("by two", 1, x.count(2));
        write(x, 0, 1);
        DUE.is("a writer pins nothing", 1, x.count(2));
        x.stream();
        DUE.is("nor a stream", 1, x.count(2));
        x.reason(1, 0);
        DUE.is("nor a reasoning before its first round", 1, x.count(2));
        x.turn(4);
        DUE.is("but with it", 2, x.count(2));
        x.turn(0);
        DUE.is("by the other still", 2, x.count(2));
        x.turn(1);
        DUE.is("by none", 1, x.count(2));
        x.close();
        DUE.is("closed", 0, x.count(2));
    }

    private static void countDid() {
        HouseWorkers x = squares();
        x.question(2, 2, 0);
        x.stream();
        x.turn(0);
        DUE.is("a step", 1, x.count(3));
        x.turn(0);
        DUE.is("a failure", 2, x.count(3));
        x.turn(0);
        x.turn(1);
        x.turn(-1);
        DUE.is("ended, waiting, BAD", 2, x.count(3));
        x.cancel(1);
        DUE.is("telling", 2, x.count(3));
        x.turn(1);
        DUE.is("a cancelling", 3, x.count(3));
        x.writer(1, 0, 0, 1);
        x.run(1000);
        DUE.is("a step and a commit, in a run", 5, x.count(3));
        x.stream();
        x.close();
        DUE.is("closing", 5, x.count(3));
    }

    private static void countWaited() {
        HouseWorkers x = squares();
        x.stream();
        x.question(1, 0, 0);
        x.turn(0);
        x.turn(0);
        DUE.is("twice", 2, x.count(4));
        x.turn(1);
        x.turn(1);
        x.turn(2);
        DUE.is("done, ended, BAD", 2, x.count(4));
        x.run(1000);
        DUE.is("in a run", 3, x.count(4));
        cancelNow(x, 0);
        x.turn(0);
        DUE.is("cancelled, ended", 3, x.count(4));
    }

    private static void countGoOn() {
        HouseWorkers x = squares();
        oneOfEachKind(x);
        x.question(1, 0, 0);
        x.question(1, 1, 0);
        DUE.is("all, also who waits", 6, x.count(5));
        x.turn(4);
        DUE.is("without the DONE", 5, x.count(5));
        x.turn(5);
        DUE.is("without the FAILED", 4, x.count(5));
        x.cancel(0);
        DUE.is("with whom was told", 4, x.count(5));
        x.turn(0);
        DUE.is("without the CANCELLED", 3, x.count(5));
        x.close();
        DUE.is("closed", 0, x.count(5));
        DUE.is("thirty", 30, full().count(5));
    }

    private static void countNothing() {
        for (int what : outside(GO_ON)) {
            DUE.is("count(" + what + ")", BAD, squares().count(what));
            DUE.is("full: count(" + what + ")", BAD, full().count(what));
            DUE.is("closed: count(" + what + ")", BAD, closed().count(what));
        }
    }
}
